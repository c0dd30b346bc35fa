theorem goodIn_r {big : List Cond} (ws : List Cond) (ps : List Nat) (hp : ws = ps.filterMap (fun i => big[i]?)) (h : ws.all goodWord = true) : GoodIn big ws := by
  intro w hw
  have h1 := List.all_eq_true.mp h w hw
  rw [hp] at hw
  obtain ⟨i, -, hi⟩ := List.mem_filterMap.mp hw
  have hm : w ∈ big := by first | exact List.mem_of_getElem? hi | exact List.getElem?_mem hi
  exact ⟨hm, good_of_word h1⟩
theorem goodIn_app {big a b : List Cond} (ha : GoodIn big a) (hb : GoodIn big b) : GoodIn big (a ++ b) := fun w h => (List.mem_append.mp h).elim (ha w) (hb w)
theorem goodIn_ca {big a b : List Cond} {c : Cond} (ha : GoodIn big (c :: a)) (hb : GoodIn big b) : GoodIn big (c :: (a ++ b)) := fun w h => (List.mem_cons.mp h).elim (fun e => ha w (List.mem_cons.mpr (Or.inl e))) (fun h => (List.mem_append.mp h).elim (fun h => ha w (List.mem_cons.mpr (Or.inr h))) (hb w))
theorem goodIn_sub {big ws : List Cond} (hm : ∀ w ∈ ws, w ∈ big) (h : ws.all goodWord = true) : GoodIn big ws := fun w hw => ⟨hm w hw, good_of_word (List.all_eq_true.mp h w hw)⟩

def RX0 : String := "CrossingKeeper$Bodies"
def TX0 : u_T := fun k => match k with
  | _ => ("CrossingKeeper$Bodies", "sum", "I", false)
def tyX0 : Nat → FieldType := fun k => match k with
  | _ => .int
abbrev wsX00 : List Cond := u_ws RX0 TX0 1
theorem nmX0 : ∀ a, a < 1 → ∀ b, b < 1 → a ≠ b → (TX0 a).2.1 ≠ (TX0 b).2.1 := by decide +kernel
theorem tyX0_ok : ∀ k, k < 1 → parseFieldDescriptor (TX0 k).2.2.1 = some (tyX0 k) := by decide +kernel
abbrev cX0_init : ByteArray := prog_2_method_1_code
def yX0_init : MethodName := ⟨RX0, "<init>", "()V"⟩
abbrev cX0_asksOf : ByteArray := prog_2_method_2_code
def yX0_asksOf : MethodName := ⟨RX0, "asksOf", "(III)Z"⟩
abbrev cX0_holdsOf : ByteArray := prog_2_method_3_code
def yX0_holdsOf : MethodName := ⟨RX0, "holdsOf", "(II)Z"⟩
abbrev cX0_asksAsCar : ByteArray := prog_2_method_4_code
def yX0_asksAsCar : MethodName := ⟨RX0, "asksAsCar", "(II)Z"⟩
abbrev cX0_asksAsTurn : ByteArray := prog_2_method_5_code
def yX0_asksAsTurn : MethodName := ⟨RX0, "asksAsTurn", "(II)Z"⟩
abbrev cX0_asksAsWalk : ByteArray := prog_2_method_6_code
def yX0_asksAsWalk : MethodName := ⟨RX0, "asksAsWalk", "(I)Z"⟩
abbrev cX0_asksAsTram : ByteArray := prog_2_method_7_code
def yX0_asksAsTram : MethodName := ⟨RX0, "asksAsTram", "(I)Z"⟩
abbrev cX0_holdsAsCar : ByteArray := prog_2_method_8_code
def yX0_holdsAsCar : MethodName := ⟨RX0, "holdsAsCar", "(I)Z"⟩
abbrev cX0_holdsAsWalk : ByteArray := prog_2_method_9_code
def yX0_holdsAsWalk : MethodName := ⟨RX0, "holdsAsWalk", "()Z"⟩
abbrev cX0_holdsAsTram : ByteArray := prog_2_method_10_code
def yX0_holdsAsTram : MethodName := ⟨RX0, "holdsAsTram", "(I)Z"⟩
abbrev cX0_holdsAsRest : ByteArray := prog_2_method_11_code
def yX0_holdsAsRest : MethodName := ⟨RX0, "holdsAsRest", "()Z"⟩
def RX1 : String := "CrossingKeeper$Detector"
def TX1 : u_T := fun k => match k with
  | 0 => ("CrossingKeeper$Detector", "number", "I", true)
  | 1 => ("CrossingKeeper$Detector", "passings", "[B", false)
  | 2 => ("CrossingKeeper$Detector", "occupied", "[S", false)
  | _ => ("CrossingKeeper$Detector", "size", "I", false)
def tyX1 : Nat → FieldType := fun k => match k with
  | 0 => .int
  | 1 => .array .byte
  | 2 => .array .short
  | _ => .int
abbrev wsX10 : List Cond := u_ws RX1 TX1 4
theorem nmX1 : ∀ a, a < 4 → ∀ b, b < 4 → a ≠ b → (TX1 a).2.1 ≠ (TX1 b).2.1 := by decide +kernel
theorem tyX1_ok : ∀ k, k < 4 → parseFieldDescriptor (TX1 k).2.2.1 = some (tyX1 k) := by decide +kernel
abbrev cX1_init : ByteArray := prog_3_method_1_code
def yX1_init : MethodName := ⟨RX1, "<init>", "(I)V"⟩
abbrev cX1_isCutOff : ByteArray := prog_3_method_2_code
def yX1_isCutOff : MethodName := ⟨RX1, "isCutOff", "()Z"⟩
abbrev cX1_cutOff : ByteArray := prog_3_method_3_code
def yX1_cutOff : MethodName := ⟨RX1, "cutOff", "()I"⟩
abbrev cX1_addPlace : ByteArray := prog_3_method_4_code
def yX1_addPlace : MethodName := ⟨RX1, "addPlace", "(II)Z"⟩
abbrev cX1_reaches : ByteArray := prog_3_method_5_code
def yX1_reaches : MethodName := ⟨RX1, "reaches", "(I)Z"⟩
abbrev cX1_passingsAt : ByteArray := prog_3_method_6_code
def yX1_passingsAt : MethodName := ⟨RX1, "passingsAt", "(I)I"⟩
abbrev cX1_occupiedAt : ByteArray := prog_3_method_7_code
def yX1_occupiedAt : MethodName := ⟨RX1, "occupiedAt", "(I)I"⟩
def RX2 : String := "CrossingKeeper$Faults"
def TX2 : u_T := fun k => match k with
  | 0 => ("CrossingKeeper$Faults", "met", "I", false)
  | 1 => ("CrossingKeeper$Faults", "latestKind", "I", false)
  | 2 => ("CrossingKeeper$Faults", "latestSecond", "I", false)
  | 3 => ("CrossingKeeper$Faults", "stays", "I", false)
  | _ => ("CrossingKeeper$Faults", "alarmed", "Z", false)
def tyX2 : Nat → FieldType := fun k => match k with
  | 0 => .int
  | 1 => .int
  | 2 => .int
  | 3 => .int
  | _ => .boolean
abbrev wsX20 : List Cond := u_ws RX2 TX2 5
theorem nmX2 : ∀ a, a < 5 → ∀ b, b < 5 → a ≠ b → (TX2 a).2.1 ≠ (TX2 b).2.1 := by decide +kernel
theorem tyX2_ok : ∀ k, k < 5 → parseFieldDescriptor (TX2 k).2.2.1 = some (tyX2 k) := by decide +kernel
abbrev cX2_init : ByteArray := prog_4_method_1_code
def yX2_init : MethodName := ⟨RX2, "<init>", "()V"⟩
abbrev cX2_meet : ByteArray := prog_4_method_2_code
def yX2_meet : MethodName := ⟨RX2, "meet", "(II)V"⟩
def RX3 : String := "CrossingKeeper$Findings"
def TX3 : u_T := fun k => match k with
  | 0 => ("CrossingKeeper$Findings", "byKind", "[I", true)
  | 1 => ("CrossingKeeper$Findings", "latestKind", "I", false)
  | _ => ("CrossingKeeper$Findings", "latestPhase", "I", false)
def tyX3 : Nat → FieldType := fun k => match k with
  | 0 => .array .int
  | 1 => .int
  | _ => .int
abbrev wsX30 : List Cond := u_ws RX3 TX3 3
theorem nmX3 : ∀ a, a < 3 → ∀ b, b < 3 → a ≠ b → (TX3 a).2.1 ≠ (TX3 b).2.1 := by decide +kernel
theorem tyX3_ok : ∀ k, k < 3 → parseFieldDescriptor (TX3 k).2.2.1 = some (tyX3 k) := by decide +kernel
abbrev cX3_init : ByteArray := prog_5_method_1_code
def yX3_init : MethodName := ⟨RX3, "<init>", "()V"⟩
abbrev cX3_add : ByteArray := prog_5_method_2_code
def yX3_add : MethodName := ⟨RX3, "add", "(II)V"⟩
abbrev cX3_howMany : ByteArray := prog_5_method_3_code
def yX3_howMany : MethodName := ⟨RX3, "howMany", "(I)I"⟩
def RX4 : String := "CrossingKeeper$Order"
def TX4 : u_T := fun k => match k with
  | 0 => ("CrossingKeeper$Order", "phase", "LCrossingKeeper$Phase;", true)
  | 1 => ("CrossingKeeper$Order", "least", "I", true)
  | 2 => ("CrossingKeeper$Order", "greatest", "I", true)
  | 3 => ("CrossingKeeper$Order", "amber", "I", true)
  | _ => ("CrossingKeeper$Order", "at", "I", true)
def tyX4 : Nat → FieldType := fun k => match k with
  | 0 => .object "CrossingKeeper$Phase"
  | 1 => .int
  | 2 => .int
  | 3 => .int
  | _ => .int
abbrev wsX40 : List Cond := u_ws RX4 TX4 5
theorem nmX4 : ∀ a, a < 5 → ∀ b, b < 5 → a ≠ b → (TX4 a).2.1 ≠ (TX4 b).2.1 := by decide +kernel
theorem tyX4_ok : ∀ k, k < 5 → parseFieldDescriptor (TX4 k).2.2.1 = some (tyX4 k) := by decide +kernel
abbrev cX4_init : ByteArray := prog_6_method_1_code
def yX4_init : MethodName := ⟨RX4, "<init>", "(LCrossingKeeper$Phase;IIII)V"⟩
abbrev cX4_changeTable : ByteArray := prog_6_method_2_code
def yX4_changeTable : MethodName := ⟨RX4, "changeTable", "()V"⟩
def RX5 : String := "CrossingKeeper$Pair"
def TX5 : u_T := fun k => match k with
  | 0 => ("CrossingKeeper$Pair", "one", "LCrossingKeeper$Detector;", true)
  | 1 => ("CrossingKeeper$Pair", "other", "LCrossingKeeper$Detector;", true)
  | 2 => ("CrossingKeeper$Pair", "span", "I", true)
  | _ => ("CrossingKeeper$Pair", "running", "I", false)
def tyX5 : Nat → FieldType := fun k => match k with
  | 0 => .object "CrossingKeeper$Detector"
  | 1 => .object "CrossingKeeper$Detector"
  | 2 => .int
  | _ => .int
abbrev wsX50 : List Cond := u_ws RX5 TX5 4
theorem nmX5 : ∀ a, a < 4 → ∀ b, b < 4 → a ≠ b → (TX5 a).2.1 ≠ (TX5 b).2.1 := by decide +kernel
theorem tyX5_ok : ∀ k, k < 4 → parseFieldDescriptor (TX5 k).2.2.1 = some (tyX5 k) := by decide +kernel
abbrev cX5_init : ByteArray := prog_7_method_1_code
def yX5_init : MethodName := ⟨RX5, "<init>", "(LCrossingKeeper$Detector;LCrossingKeeper$Detector;I)V"⟩
abbrev cX5_lookAt : ByteArray := prog_7_method_2_code
def yX5_lookAt : MethodName := ⟨RX5, "lookAt", "(I)V"⟩
abbrev cX5_differIn : ByteArray := prog_7_method_3_code
def yX5_differIn : MethodName := ⟨RX5, "differIn", "(I)Z"⟩
abbrev cX5_isBroken : ByteArray := prog_7_method_4_code
def yX5_isBroken : MethodName := ⟨RX5, "isBroken", "()Z"⟩
abbrev cX5_beginAnew : ByteArray := prog_7_method_5_code
def yX5_beginAnew : MethodName := ⟨RX5, "beginAnew", "()V"⟩
def RX6 : String := "CrossingKeeper$Phase"
def TX6 : u_T := fun k => match k with
  | 0 => ("CrossingKeeper$Phase", "number", "I", true)
  | 1 => ("CrossingKeeper$Phase", "kind", "I", true)
  | 2 => ("CrossingKeeper$Phase", "clearings", "[I", true)
  | 3 => ("CrossingKeeper$Phase", "lightsBehind", "[I", true)
  | 4 => ("CrossingKeeper$Phase", "detector", "LCrossingKeeper$Detector;", false)
  | 5 => ("CrossingKeeper$Phase", "lampOut", "Z", false)
  | 6 => ("CrossingKeeper$Phase", "light", "I", false)
  | 7 => ("CrossingKeeper$Phase", "holding", "Z", false)
  | 8 => ("CrossingKeeper$Phase", "askedSince", "I", false)
  | 9 => ("CrossingKeeper$Phase", "ends", "I", false)
  | 10 => ("CrossingKeeper$Phase", "free", "I", false)
  | 11 => ("CrossingKeeper$Phase", "least", "I", false)
  | 12 => ("CrossingKeeper$Phase", "greatest", "I", false)
  | 13 => ("CrossingKeeper$Phase", "amber", "I", false)
  | 14 => ("CrossingKeeper$Phase", "gap", "I", false)
  | 15 => ("CrossingKeeper$Phase", "greens", "I", false)
  | 16 => ("CrossingKeeper$Phase", "entered", "I", false)
  | _ => ("CrossingKeeper$Phase", "left", "I", false)
def tyX6 : Nat → FieldType := fun k => match k with
  | 0 => .int
  | 1 => .int
  | 2 => .array .int
  | 3 => .array .int
  | 4 => .object "CrossingKeeper$Detector"
  | 5 => .boolean
  | 6 => .int
  | 7 => .boolean
  | 8 => .int
  | 9 => .int
  | 10 => .int
  | 11 => .int
  | 12 => .int
  | 13 => .int
  | 14 => .int
  | 15 => .int
  | 16 => .int
  | _ => .int
abbrev wsX60 : List Cond := u_ws RX6 TX6 18
theorem nmX6 : ∀ a, a < 18 → ∀ b, b < 18 → a ≠ b → (TX6 a).2.1 ≠ (TX6 b).2.1 := by decide +kernel
theorem tyX6_ok : ∀ k, k < 18 → parseFieldDescriptor (TX6 k).2.2.1 = some (tyX6 k) := by decide +kernel
abbrev cX6_init : ByteArray := prog_8_method_1_code
def yX6_init : MethodName := ⟨RX6, "<init>", "(II)V"⟩
abbrev cX6_isAsked : ByteArray := prog_8_method_2_code
def yX6_isAsked : MethodName := ⟨RX6, "isAsked", "()Z"⟩
abbrev cX6_isLit : ByteArray := prog_8_method_3_code
def yX6_isLit : MethodName := ⟨RX6, "isLit", "()Z"⟩
abbrev cX6_setClearing : ByteArray := prog_8_method_4_code
def yX6_setClearing : MethodName := ⟨RX6, "setClearing", "(LCrossingKeeper$Phase;I)V"⟩
abbrev cX6_clearingTo : ByteArray := prog_8_method_5_code
def yX6_clearingTo : MethodName := ⟨RX6, "clearingTo", "(LCrossingKeeper$Phase;)I"⟩
abbrev cX6_greatestClearing : ByteArray := prog_8_method_6_code
def yX6_greatestClearing : MethodName := ⟨RX6, "greatestClearing", "()I"⟩
abbrev cX6_keepLight : ByteArray := prog_8_method_7_code
def yX6_keepLight : MethodName := ⟨RX6, "keepLight", "(I)V"⟩
abbrev cX6_lightBehind : ByteArray := prog_8_method_8_code
def yX6_lightBehind : MethodName := ⟨RX6, "lightBehind", "(I)I"⟩
def RX7 : String := "CrossingKeeper$Stage"
def TX7 : u_T := fun k => match k with
  | 0 => ("CrossingKeeper$Stage", "number", "I", true)
  | _ => ("CrossingKeeper$Stage", "places", "[LCrossingKeeper$Phase;", true)
def tyX7 : Nat → FieldType := fun k => match k with
  | 0 => .int
  | _ => .array (.object "CrossingKeeper$Phase")
abbrev wsX70 : List Cond := u_ws RX7 TX7 2
theorem nmX7 : ∀ a, a < 2 → ∀ b, b < 2 → a ≠ b → (TX7 a).2.1 ≠ (TX7 b).2.1 := by decide +kernel
theorem tyX7_ok : ∀ k, k < 2 → parseFieldDescriptor (TX7 k).2.2.1 = some (tyX7 k) := by decide +kernel
abbrev cX7_init : ByteArray := prog_9_method_1_code
def yX7_init : MethodName := ⟨RX7, "<init>", "(I)V"⟩
abbrev cX7_putPhase : ByteArray := prog_9_method_2_code
def yX7_putPhase : MethodName := ⟨RX7, "putPhase", "(ILCrossingKeeper$Phase;)V"⟩
abbrev cX7_phaseIn : ByteArray := prog_9_method_3_code
def yX7_phaseIn : MethodName := ⟨RX7, "phaseIn", "(I)LCrossingKeeper$Phase;"⟩
abbrev cX7_hasPhase : ByteArray := prog_9_method_4_code
def yX7_hasPhase : MethodName := ⟨RX7, "hasPhase", "(LCrossingKeeper$Phase;)Z"⟩
abbrev cX7_isEmpty : ByteArray := prog_9_method_5_code
def yX7_isEmpty : MethodName := ⟨RX7, "isEmpty", "()Z"⟩
abbrev cX7_hasConflict : ByteArray := prog_9_method_6_code
def yX7_hasConflict : MethodName := ⟨RX7, "hasConflict", "()Z"⟩
abbrev cX7_leastGreen : ByteArray := prog_9_method_7_code
def yX7_leastGreen : MethodName := ⟨RX7, "leastGreen", "()I"⟩
abbrev cX7_greatestGreen : ByteArray := prog_9_method_8_code
def yX7_greatestGreen : MethodName := ⟨RX7, "greatestGreen", "()I"⟩
abbrev cX7_isHeld : ByteArray := prog_9_method_9_code
def yX7_isHeld : MethodName := ⟨RX7, "isHeld", "()Z"⟩
abbrev cX7_firstAsked : ByteArray := prog_9_method_10_code
def yX7_firstAsked : MethodName := ⟨RX7, "firstAsked", "()I"⟩
abbrev cX7_mayBeGreen : ByteArray := prog_9_method_11_code
def yX7_mayBeGreen : MethodName := ⟨RX7, "mayBeGreen", "(I)Z"⟩
def RX8 : String := "CrossingKeeper"
def TX8 : u_T := fun k => match k with
  | 0 => ("CrossingKeeper", "phases", "Ljava/util/ArrayList;", true)
  | 1 => ("CrossingKeeper", "stages", "Ljava/util/ArrayList;", true)
  | 2 => ("CrossingKeeper", "detectors", "Ljava/util/ArrayList;", true)
  | 3 => ("CrossingKeeper", "orders", "Ljava/util/ArrayList;", true)
  | 4 => ("CrossingKeeper", "pairs", "Ljava/util/ArrayList;", true)
  | 5 => ("CrossingKeeper", "findings", "LCrossingKeeper$Findings;", true)
  | 6 => ("CrossingKeeper", "faults", "LCrossingKeeper$Faults;", true)
  | 7 => ("CrossingKeeper", "bodies", "LCrossingKeeper$Bodies;", true)
  | 8 => ("CrossingKeeper", "now", "I", false)
  | 9 => ("CrossingKeeper", "changes", "I", false)
  | 10 => ("CrossingKeeper", "green", "LCrossingKeeper$Stage;", false)
  | 11 => ("CrossingKeeper", "greenSince", "I", false)
  | 12 => ("CrossingKeeper", "greenLeast", "I", false)
  | 13 => ("CrossingKeeper", "greenGreatest", "I", false)
  | 14 => ("CrossingKeeper", "hurried", "LCrossingKeeper$Stage;", false)
  | _ => ("CrossingKeeper", "latestGreen", "I", false)
def tyX8 : Nat → FieldType := fun k => match k with
  | 0 => .object "java/util/ArrayList"
  | 1 => .object "java/util/ArrayList"
  | 2 => .object "java/util/ArrayList"
  | 3 => .object "java/util/ArrayList"
  | 4 => .object "java/util/ArrayList"
  | 5 => .object "CrossingKeeper$Findings"
  | 6 => .object "CrossingKeeper$Faults"
  | 7 => .object "CrossingKeeper$Bodies"
  | 8 => .int
  | 9 => .int
  | 10 => .object "CrossingKeeper$Stage"
  | 11 => .int
  | 12 => .int
  | 13 => .int
  | 14 => .object "CrossingKeeper$Stage"
  | _ => .int
abbrev wsX80 : List Cond := u_ws RX8 TX8 16
theorem nmX8 : ∀ a, a < 16 → ∀ b, b < 16 → a ≠ b → (TX8 a).2.1 ≠ (TX8 b).2.1 := by decide +kernel
theorem tyX8_ok : ∀ k, k < 16 → parseFieldDescriptor (TX8 k).2.2.1 = some (tyX8 k) := by decide +kernel
abbrev cX8_init : ByteArray := prog_1_method_1_code
def yX8_init : MethodName := ⟨RX8, "<init>", "()V"⟩
abbrev cX8_phase : ByteArray := prog_1_method_2_code
def yX8_phase : MethodName := ⟨RX8, "phase", "(I)I"⟩
abbrev cX8_conflict : ByteArray := prog_1_method_3_code
def yX8_conflict : MethodName := ⟨RX8, "conflict", "(IIII)I"⟩
abbrev cX8_stage : ByteArray := prog_1_method_4_code
def yX8_stage : MethodName := ⟨RX8, "stage", "(IIII)I"⟩
abbrev cX8_detector : ByteArray := prog_1_method_5_code
def yX8_detector : MethodName := ⟨RX8, "detector", "(I)I"⟩
abbrev cX8_cut : ByteArray := prog_1_method_6_code
def yX8_cut : MethodName := ⟨RX8, "cut", "(I)I"⟩
abbrev cX8_passing : ByteArray := prog_1_method_7_code
def yX8_passing : MethodName := ⟨RX8, "passing", "(III)I"⟩
abbrev cX8_table : ByteArray := prog_1_method_8_code
def yX8_table : MethodName := ⟨RX8, "table", "(IIIII)I"⟩
abbrev cX8_lamp : ByteArray := prog_1_method_9_code
def yX8_lamp : MethodName := ⟨RX8, "lamp", "(IZ)I"⟩
abbrev cX8_pair : ByteArray := prog_1_method_10_code
def yX8_pair : MethodName := ⟨RX8, "pair", "(III)I"⟩
abbrev cX8_ask : ByteArray := prog_1_method_11_code
def yX8_ask : MethodName := ⟨RX8, "ask", "(I)I"⟩
abbrev cX8_hurry : ByteArray := prog_1_method_12_code
def yX8_hurry : MethodName := ⟨RX8, "hurry", "(I)I"⟩
abbrev cX8_second : ByteArray := prog_1_method_13_code
def yX8_second : MethodName := ⟨RX8, "second", "(I)I"⟩
abbrev cX8_alarm : ByteArray := prog_1_method_14_code
def yX8_alarm : MethodName := ⟨RX8, "alarm", "()I"⟩
abbrev cX8_restore : ByteArray := prog_1_method_15_code
def yX8_restore : MethodName := ⟨RX8, "restore", "()I"⟩
abbrev cX8_light : ByteArray := prog_1_method_16_code
def yX8_light : MethodName := ⟨RX8, "light", "(I)I"⟩
abbrev cX8_was : ByteArray := prog_1_method_17_code
def yX8_was : MethodName := ⟨RX8, "was", "(II)I"⟩
abbrev cX8_stageOf : ByteArray := prog_1_method_18_code
def yX8_stageOf : MethodName := ⟨RX8, "stageOf", "(I)I"⟩
abbrev cX8_place : ByteArray := prog_1_method_19_code
def yX8_place : MethodName := ⟨RX8, "place", "(II)I"⟩
abbrev cX8_told : ByteArray := prog_1_method_20_code
def yX8_told : MethodName := ⟨RX8, "told", "(II)I"⟩
abbrev cX8_length : ByteArray := prog_1_method_21_code
def yX8_length : MethodName := ⟨RX8, "length", "(I)I"⟩
abbrev cX8_bound : ByteArray := prog_1_method_22_code
def yX8_bound : MethodName := ⟨RX8, "bound", "()I"⟩
abbrev cX8_count : ByteArray := prog_1_method_23_code
def yX8_count : MethodName := ⟨RX8, "count", "(I)I"⟩
abbrev cX8_finding : ByteArray := prog_1_method_24_code
def yX8_finding : MethodName := ⟨RX8, "finding", "(I)I"⟩
abbrev cX8_fault : ByteArray := prog_1_method_25_code
def yX8_fault : MethodName := ⟨RX8, "fault", "(I)I"⟩
abbrev cX8_trace : ByteArray := prog_1_method_26_code
def yX8_trace : MethodName := ⟨RX8, "trace", "()I"⟩
abbrev cX8_isWithin : ByteArray := prog_1_method_27_code
def yX8_isWithin : MethodName := ⟨RX8, "isWithin", "(III)Z"⟩
abbrev cX8_phaseAt : ByteArray := prog_1_method_28_code
def yX8_phaseAt : MethodName := ⟨RX8, "phaseAt", "(I)LCrossingKeeper$Phase;"⟩
abbrev cX8_stageAt : ByteArray := prog_1_method_29_code
def yX8_stageAt : MethodName := ⟨RX8, "stageAt", "(I)LCrossingKeeper$Stage;"⟩
abbrev cX8_detectorAt : ByteArray := prog_1_method_30_code
def yX8_detectorAt : MethodName := ⟨RX8, "detectorAt", "(I)LCrossingKeeper$Detector;"⟩
abbrev cX8_numberOf : ByteArray := prog_1_method_31_code
def yX8_numberOf : MethodName := ⟨RX8, "numberOf", "(LCrossingKeeper$Stage;)I"⟩
abbrev cX8_doOrders : ByteArray := prog_1_method_32_code
def yX8_doOrders : MethodName := ⟨RX8, "doOrders", "(I)V"⟩
abbrev cX8_runLights : ByteArray := prog_1_method_33_code
def yX8_runLights : MethodName := ⟨RX8, "runLights", "(I)V"⟩
abbrev cX8_keepLights : ByteArray := prog_1_method_34_code
def yX8_keepLights : MethodName := ⟨RX8, "keepLights", "(I)V"⟩
abbrev cX8_readPhases : ByteArray := prog_1_method_35_code
def yX8_readPhases : MethodName := ⟨RX8, "readPhases", "(I)V"⟩
abbrev cX8_holdsIn : ByteArray := prog_1_method_36_code
def yX8_holdsIn : MethodName := ⟨RX8, "holdsIn", "(LCrossingKeeper$Phase;I)Z"⟩
abbrev cX8_asksIn : ByteArray := prog_1_method_37_code
def yX8_asksIn : MethodName := ⟨RX8, "asksIn", "(LCrossingKeeper$Phase;I)Z"⟩
abbrev cX8_rowsUntil : ByteArray := prog_1_method_38_code
def yX8_rowsUntil : MethodName := ⟨RX8, "rowsUntil", "(LCrossingKeeper$Phase;I)LCrossingKeeper$Detector;"⟩
abbrev cX8_endsIn : ByteArray := prog_1_method_39_code
def yX8_endsIn : MethodName := ⟨RX8, "endsIn", "(LCrossingKeeper$Stage;I)Z"⟩
abbrev cX8_endStage : ByteArray := prog_1_method_40_code
def yX8_endStage : MethodName := ⟨RX8, "endStage", "(LCrossingKeeper$Stage;I)V"⟩
abbrev cX8_setEnd : ByteArray := prog_1_method_41_code
def yX8_setEnd : MethodName := ⟨RX8, "setEnd", "(LCrossingKeeper$Phase;I)V"⟩
abbrev cX8_endAmbers : ByteArray := prog_1_method_42_code
def yX8_endAmbers : MethodName := ⟨RX8, "endAmbers", "(I)V"⟩
abbrev cX8_beginStage : ByteArray := prog_1_method_43_code
def yX8_beginStage : MethodName := ⟨RX8, "beginStage", "(LCrossingKeeper$Stage;I)V"⟩
abbrev cX8_nextStage : ByteArray := prog_1_method_44_code
def yX8_nextStage : MethodName := ⟨RX8, "nextStage", "()LCrossingKeeper$Stage;"⟩
abbrev cX8_changeLight : ByteArray := prog_1_method_45_code
def yX8_changeLight : MethodName := ⟨RX8, "changeLight", "(LCrossingKeeper$Phase;II)V"⟩
abbrev cX8_changeAllLights : ByteArray := prog_1_method_46_code
def yX8_changeAllLights : MethodName := ⟨RX8, "changeAllLights", "(I)V"⟩
abbrev cX8_gapOf : ByteArray := prog_1_method_47_code
def yX8_gapOf : MethodName := ⟨RX8, "gapOf", "(LCrossingKeeper$Phase;I)I"⟩
abbrev cX8_lookAtPairs : ByteArray := prog_1_method_48_code
def yX8_lookAtPairs : MethodName := ⟨RX8, "lookAtPairs", "(I)V"⟩
abbrev cX8_faultToMeet : ByteArray := prog_1_method_49_code
def yX8_faultToMeet : MethodName := ⟨RX8, "faultToMeet", "()I"⟩
abbrev cX8_meetFault : ByteArray := prog_1_method_50_code
def yX8_meetFault : MethodName := ⟨RX8, "meetFault", "(II)V"⟩
abbrev cX8_flashIfDue : ByteArray := prog_1_method_51_code
def yX8_flashIfDue : MethodName := ⟨RX8, "flashIfDue", "(I)V"⟩
def RX9 : String := "CrossingKeeperModel"
def TX9 : u_T := fun k => match k with
  | 0 => ("CrossingKeeperModel", "now", "I", false)
  | 1 => ("CrossingKeeperModel", "phases", "I", false)
  | 2 => ("CrossingKeeperModel", "kind", "[I", true)
  | 3 => ("CrossingKeeperModel", "light", "[I", true)
  | 4 => ("CrossingKeeperModel", "detectorOf", "[I", true)
  | 5 => ("CrossingKeeperModel", "entered", "[I", true)
  | 6 => ("CrossingKeeperModel", "gap", "[I", true)
  | 7 => ("CrossingKeeperModel", "greens", "[I", true)
  | 8 => ("CrossingKeeperModel", "ends", "[I", true)
  | 9 => ("CrossingKeeperModel", "free", "[I", true)
  | 10 => ("CrossingKeeperModel", "asked", "[I", true)
  | 11 => ("CrossingKeeperModel", "least", "[I", true)
  | 12 => ("CrossingKeeperModel", "greatest", "[I", true)
  | 13 => ("CrossingKeeperModel", "amber", "[I", true)
  | 14 => ("CrossingKeeperModel", "isOut", "[Z", true)
  | 15 => ("CrossingKeeperModel", "holds", "[Z", true)
  | 16 => ("CrossingKeeperModel", "clearing", "[I", true)
  | 17 => ("CrossingKeeperModel", "stages", "I", false)
  | 18 => ("CrossingKeeperModel", "places", "[I", true)
  | 19 => ("CrossingKeeperModel", "detectors", "I", false)
  | 20 => ("CrossingKeeperModel", "length", "[I", true)
  | 21 => ("CrossingKeeperModel", "passings", "[I", true)
  | 22 => ("CrossingKeeperModel", "occupied", "[I", true)
  | 23 => ("CrossingKeeperModel", "orders", "I", false)
  | 24 => ("CrossingKeeperModel", "orderPhase", "[I", true)
  | 25 => ("CrossingKeeperModel", "orderLeast", "[I", true)
  | 26 => ("CrossingKeeperModel", "orderGreatest", "[I", true)
  | 27 => ("CrossingKeeperModel", "orderAmber", "[I", true)
  | 28 => ("CrossingKeeperModel", "orderAt", "[I", true)
  | 29 => ("CrossingKeeperModel", "pairs", "I", false)
  | 30 => ("CrossingKeeperModel", "pairOne", "[I", true)
  | 31 => ("CrossingKeeperModel", "pairOther", "[I", true)
  | 32 => ("CrossingKeeperModel", "pairSpan", "[I", true)
  | 33 => ("CrossingKeeperModel", "pairRun", "[I", true)
  | 34 => ("CrossingKeeperModel", "green", "I", false)
  | 35 => ("CrossingKeeperModel", "since", "I", false)
  | 36 => ("CrossingKeeperModel", "greenLeast", "I", false)
  | 37 => ("CrossingKeeperModel", "greenGreatest", "I", false)
  | 38 => ("CrossingKeeperModel", "latestGreen", "I", false)
  | 39 => ("CrossingKeeperModel", "hurried", "I", false)
  | 40 => ("CrossingKeeperModel", "isAlarmed", "Z", false)
  | 41 => ("CrossingKeeperModel", "faultKind", "I", false)
  | 42 => ("CrossingKeeperModel", "faultSecond", "I", false)
  | 43 => ("CrossingKeeperModel", "faultNumber", "I", false)
  | 44 => ("CrossingKeeperModel", "faultState", "I", false)
  | 45 => ("CrossingKeeperModel", "faults", "I", false)
  | 46 => ("CrossingKeeperModel", "findings", "[I", true)
  | 47 => ("CrossingKeeperModel", "findingKind", "I", false)
  | 48 => ("CrossingKeeperModel", "findingPhase", "I", false)
  | 49 => ("CrossingKeeperModel", "changes", "I", false)
  | 50 => ("CrossingKeeperModel", "trace", "I", false)
  | 51 => ("CrossingKeeperModel", "was", "[I", true)
  | _ => ("CrossingKeeperModel", "four", "[I", true)
def tyX9 : Nat → FieldType := fun k => match k with
  | 0 => .int
  | 1 => .int
  | 2 => .array .int
  | 3 => .array .int
  | 4 => .array .int
  | 5 => .array .int
  | 6 => .array .int
  | 7 => .array .int
  | 8 => .array .int
  | 9 => .array .int
  | 10 => .array .int
  | 11 => .array .int
  | 12 => .array .int
  | 13 => .array .int
  | 14 => .array .boolean
  | 15 => .array .boolean
  | 16 => .array .int
  | 17 => .int
  | 18 => .array .int
  | 19 => .int
  | 20 => .array .int
  | 21 => .array .int
  | 22 => .array .int
  | 23 => .int
  | 24 => .array .int
  | 25 => .array .int
  | 26 => .array .int
  | 27 => .array .int
  | 28 => .array .int
  | 29 => .int
  | 30 => .array .int
  | 31 => .array .int
  | 32 => .array .int
  | 33 => .array .int
  | 34 => .int
  | 35 => .int
  | 36 => .int
  | 37 => .int
  | 38 => .int
  | 39 => .int
  | 40 => .boolean
  | 41 => .int
  | 42 => .int
  | 43 => .int
  | 44 => .int
  | 45 => .int
  | 46 => .array .int
  | 47 => .int
  | 48 => .int
  | 49 => .int
  | 50 => .int
  | 51 => .array .int
  | _ => .array .int
abbrev wsX90 : List Cond := u_ws RX9 TX9 53
theorem nmX9 : ∀ a, a < 53 → ∀ b, b < 53 → a ≠ b → (TX9 a).2.1 ≠ (TX9 b).2.1 := by decide +kernel
theorem tyX9_ok : ∀ k, k < 53 → parseFieldDescriptor (TX9 k).2.2.1 = some (tyX9 k) := by decide +kernel
abbrev cX9_init : ByteArray := prog_11_method_1_code
def yX9_init : MethodName := ⟨RX9, "<init>", "()V"⟩
abbrev cX9_in : ByteArray := prog_11_method_2_code
def yX9_in : MethodName := ⟨RX9, "in", "(III)Z"⟩
abbrev cX9_isPhase : ByteArray := prog_11_method_3_code
def yX9_isPhase : MethodName := ⟨RX9, "isPhase", "(I)Z"⟩
abbrev cX9_isStage : ByteArray := prog_11_method_4_code
def yX9_isStage : MethodName := ⟨RX9, "isStage", "(I)Z"⟩
abbrev cX9_isDetector : ByteArray := prog_11_method_5_code
def yX9_isDetector : MethodName := ⟨RX9, "isDetector", "(I)Z"⟩
abbrev cX9_meets : ByteArray := prog_11_method_6_code
def yX9_meets : MethodName := ⟨RX9, "meets", "(II)Z"⟩
abbrev cX9_phase : ByteArray := prog_11_method_7_code
def yX9_phase : MethodName := ⟨RX9, "phase", "(I)I"⟩
abbrev cX9_has : ByteArray := prog_11_method_8_code
def yX9_has : MethodName := ⟨RX9, "has", "(II)Z"⟩
abbrev cX9_conflict : ByteArray := prog_11_method_9_code
def yX9_conflict : MethodName := ⟨RX9, "conflict", "(IIII)I"⟩
abbrev cX9_stage : ByteArray := prog_11_method_10_code
def yX9_stage : MethodName := ⟨RX9, "stage", "(IIII)I"⟩
abbrev cX9_detector : ByteArray := prog_11_method_11_code
def yX9_detector : MethodName := ⟨RX9, "detector", "(I)I"⟩
abbrev cX9_cut : ByteArray := prog_11_method_12_code
def yX9_cut : MethodName := ⟨RX9, "cut", "(I)I"⟩
abbrev cX9_passing : ByteArray := prog_11_method_13_code
def yX9_passing : MethodName := ⟨RX9, "passing", "(III)I"⟩
abbrev cX9_table : ByteArray := prog_11_method_14_code
def yX9_table : MethodName := ⟨RX9, "table", "(IIIII)I"⟩
abbrev cX9_lamp : ByteArray := prog_11_method_15_code
def yX9_lamp : MethodName := ⟨RX9, "lamp", "(IZ)I"⟩
abbrev cX9_pair : ByteArray := prog_11_method_16_code
def yX9_pair : MethodName := ⟨RX9, "pair", "(III)I"⟩
abbrev cX9_ask : ByteArray := prog_11_method_17_code
def yX9_ask : MethodName := ⟨RX9, "ask", "(I)I"⟩
abbrev cX9_hurry : ByteArray := prog_11_method_18_code
def yX9_hurry : MethodName := ⟨RX9, "hurry", "(I)I"⟩
abbrev cX9_alarm : ByteArray := prog_11_method_19_code
def yX9_alarm : MethodName := ⟨RX9, "alarm", "()I"⟩
abbrev cX9_found : ByteArray := prog_11_method_20_code
def yX9_found : MethodName := ⟨RX9, "found", "(II)V"⟩
abbrev cX9_readAt : ByteArray := prog_11_method_21_code
def yX9_readAt : MethodName := ⟨RX9, "readAt", "(I)I"⟩
abbrev cX9_asksOfCar : ByteArray := prog_11_method_22_code
def yX9_asksOfCar : MethodName := ⟨RX9, "asksOfCar", "(I)Z"⟩
abbrev cX9_doesAsk : ByteArray := prog_11_method_23_code
def yX9_doesAsk : MethodName := ⟨RX9, "doesAsk", "(I)Z"⟩
abbrev cX9_doesHold : ByteArray := prog_11_method_24_code
def yX9_doesHold : MethodName := ⟨RX9, "doesHold", "(I)Z"⟩
abbrev cX9_change : ByteArray := prog_11_method_25_code
def yX9_change : MethodName := ⟨RX9, "change", "(II)V"⟩
abbrev cX9_gapOf : ByteArray := prog_11_method_26_code
def yX9_gapOf : MethodName := ⟨RX9, "gapOf", "(I)I"⟩
abbrev cX9_endsIn : ByteArray := prog_11_method_27_code
def yX9_endsIn : MethodName := ⟨RX9, "endsIn", "(II)V"⟩
abbrev cX9_leastOf : ByteArray := prog_11_method_28_code
def yX9_leastOf : MethodName := ⟨RX9, "leastOf", "(I)I"⟩
abbrev cX9_greatestOf : ByteArray := prog_11_method_29_code
def yX9_greatestOf : MethodName := ⟨RX9, "greatestOf", "(I)I"⟩
abbrev cX9_askedFirst : ByteArray := prog_11_method_30_code
def yX9_askedFirst : MethodName := ⟨RX9, "askedFirst", "(I)I"⟩
abbrev cX9_next : ByteArray := prog_11_method_31_code
def yX9_next : MethodName := ⟨RX9, "next", "()I"⟩
abbrev cX9_doOrders : ByteArray := prog_11_method_32_code
def yX9_doOrders : MethodName := ⟨RX9, "doOrders", "()V"⟩
abbrev cX9_readAll : ByteArray := prog_11_method_33_code
def yX9_readAll : MethodName := ⟨RX9, "readAll", "()V"⟩
abbrev cX9_faultNow : ByteArray := prog_11_method_34_code
def yX9_faultNow : MethodName := ⟨RX9, "faultNow", "()I"⟩
abbrev cX9_meetFault : ByteArray := prog_11_method_35_code
def yX9_meetFault : MethodName := ⟨RX9, "meetFault", "(I)V"⟩
abbrev cX9_isAnotherWanted : ByteArray := prog_11_method_36_code
def yX9_isAnotherWanted : MethodName := ⟨RX9, "isAnotherWanted", "()Z"⟩
abbrev cX9_perhapsEnd : ByteArray := prog_11_method_37_code
def yX9_perhapsEnd : MethodName := ⟨RX9, "perhapsEnd", "()V"⟩
abbrev cX9_perhapsBegin : ByteArray := prog_11_method_38_code
def yX9_perhapsBegin : MethodName := ⟨RX9, "perhapsBegin", "()V"⟩
abbrev cX9_pass : ByteArray := prog_11_method_39_code
def yX9_pass : MethodName := ⟨RX9, "pass", "()Z"⟩
abbrev cX9_second : ByteArray := prog_11_method_40_code
def yX9_second : MethodName := ⟨RX9, "second", "(I)I"⟩
abbrev cX9_restore : ByteArray := prog_11_method_41_code
def yX9_restore : MethodName := ⟨RX9, "restore", "()I"⟩
abbrev cX9_light : ByteArray := prog_11_method_42_code
def yX9_light : MethodName := ⟨RX9, "light", "(I)I"⟩
abbrev cX9_was : ByteArray := prog_11_method_43_code
def yX9_was : MethodName := ⟨RX9, "was", "(II)I"⟩
abbrev cX9_stageOf : ByteArray := prog_11_method_44_code
def yX9_stageOf : MethodName := ⟨RX9, "stageOf", "(I)I"⟩
abbrev cX9_place : ByteArray := prog_11_method_45_code
def yX9_place : MethodName := ⟨RX9, "place", "(II)I"⟩
abbrev cX9_told : ByteArray := prog_11_method_46_code
def yX9_told : MethodName := ⟨RX9, "told", "(II)I"⟩
abbrev cX9_length : ByteArray := prog_11_method_47_code
def yX9_length : MethodName := ⟨RX9, "length", "(I)I"⟩
abbrev cX9_bound : ByteArray := prog_11_method_48_code
def yX9_bound : MethodName := ⟨RX9, "bound", "()I"⟩
abbrev cX9_count : ByteArray := prog_11_method_49_code
def yX9_count : MethodName := ⟨RX9, "count", "(I)I"⟩
abbrev cX9_finding : ByteArray := prog_11_method_50_code
def yX9_finding : MethodName := ⟨RX9, "finding", "(I)I"⟩
abbrev cX9_fault : ByteArray := prog_11_method_51_code
def yX9_fault : MethodName := ⟨RX9, "fault", "(I)I"⟩
abbrev cX9_trace : ByteArray := prog_11_method_52_code
def yX9_trace : MethodName := ⟨RX9, "trace", "()I"⟩
def RJx145de : String := "java/io/Serializable"
def TJx145de : u_T := fun k => match k with
  | _ => ("", "", "", false)
def tyJx145de : Nat → FieldType := fun k => match k with
  | _ => .int
abbrev wsJx145de0 : List Cond := u_ws RJx145de TJx145de 0
theorem nmJx145de : ∀ a, a < 0 → ∀ b, b < 0 → a ≠ b → (TJx145de a).2.1 ≠ (TJx145de b).2.1 := by decide +kernel
theorem tyJx145de_ok : ∀ k, k < 0 → parseFieldDescriptor (TJx145de k).2.2.1 = some (tyJx145de k) := by decide +kernel
def RJx8e188 : String := "java/lang/Cloneable"
def TJx8e188 : u_T := fun k => match k with
  | _ => ("", "", "", false)
def tyJx8e188 : Nat → FieldType := fun k => match k with
  | _ => .int
abbrev wsJx8e1880 : List Cond := u_ws RJx8e188 TJx8e188 0
theorem nmJx8e188 : ∀ a, a < 0 → ∀ b, b < 0 → a ≠ b → (TJx8e188 a).2.1 ≠ (TJx8e188 b).2.1 := by decide +kernel
theorem tyJx8e188_ok : ∀ k, k < 0 → parseFieldDescriptor (TJx8e188 k).2.2.1 = some (tyJx8e188 k) := by decide +kernel
def RJxab1ab : String := "java/lang/Iterable"
def TJxab1ab : u_T := fun k => match k with
  | _ => ("", "", "", false)
def tyJxab1ab : Nat → FieldType := fun k => match k with
  | _ => .int
abbrev wsJxab1ab0 : List Cond := u_ws RJxab1ab TJxab1ab 0
theorem nmJxab1ab : ∀ a, a < 0 → ∀ b, b < 0 → a ≠ b → (TJxab1ab a).2.1 ≠ (TJxab1ab b).2.1 := by decide +kernel
theorem tyJxab1ab_ok : ∀ k, k < 0 → parseFieldDescriptor (TJxab1ab k).2.2.1 = some (tyJxab1ab k) := by decide +kernel
def RJ9 : String := "java/lang/Math"
def TJ9 : u_T := fun k => match k with
  | _ => ("", "", "", false)
def tyJ9 : Nat → FieldType := fun k => match k with
  | _ => .int
abbrev wsJ90 : List Cond := u_ws RJ9 TJ9 0
theorem nmJ9 : ∀ a, a < 0 → ∀ b, b < 0 → a ≠ b → (TJ9 a).2.1 ≠ (TJ9 b).2.1 := by decide +kernel
theorem tyJ9_ok : ∀ k, k < 0 → parseFieldDescriptor (TJ9 k).2.2.1 = some (tyJ9 k) := by decide +kernel
abbrev cJ9_floorMod_7cf53 : ByteArray := prog_15_method_50_code
def yJ9_floorMod_7cf53 : MethodName := ⟨RJ9, "floorMod", "(II)I"⟩
abbrev cJ9_max_7cf53 : ByteArray := prog_15_method_65_code
def yJ9_max_7cf53 : MethodName := ⟨RJ9, "max", "(II)I"⟩
abbrev cJ9_min_7cf53 : ByteArray := prog_15_method_69_code
def yJ9_min_7cf53 : MethodName := ⟨RJ9, "min", "(II)I"⟩
def RJ10 : String := "java/lang/System"
def TJ10 : u_T := fun k => match k with
  | _ => ("", "", "", false)
def tyJ10 : Nat → FieldType := fun k => match k with
  | _ => .int
abbrev wsJ100 : List Cond := u_ws RJ10 TJ10 0
theorem nmJ10 : ∀ a, a < 0 → ∀ b, b < 0 → a ≠ b → (TJ10 a).2.1 ≠ (TJ10 b).2.1 := by decide +kernel
theorem tyJ10_ok : ∀ k, k < 0 → parseFieldDescriptor (TJ10 k).2.2.1 = some (tyJ10 k) := by decide +kernel
def RJxa1e45 : String := "java/util/AbstractCollection"
def TJxa1e45 : u_T := fun k => match k with
  | _ => ("", "", "", false)
def tyJxa1e45 : Nat → FieldType := fun k => match k with
  | _ => .int
abbrev wsJxa1e450 : List Cond := u_ws RJxa1e45 TJxa1e45 0
theorem nmJxa1e45 : ∀ a, a < 0 → ∀ b, b < 0 → a ≠ b → (TJxa1e45 a).2.1 ≠ (TJxa1e45 b).2.1 := by decide +kernel
theorem tyJxa1e45_ok : ∀ k, k < 0 → parseFieldDescriptor (TJxa1e45 k).2.2.1 = some (tyJxa1e45 k) := by decide +kernel
abbrev cJxa1e45_init_da8c8 : ByteArray := prog_17_method_1_code
def yJxa1e45_init_da8c8 : MethodName := ⟨RJxa1e45, "<init>", "()V"⟩
def RJxc12de : String := "java/util/AbstractList"
def TJxc12de : u_T := fun k => match k with
  | _ => ("", "", "", false)
def tyJxc12de : Nat → FieldType := fun k => match k with
  | _ => .int
abbrev wsJxc12de0 : List Cond := u_ws RJxc12de TJxc12de 0
theorem nmJxc12de : ∀ a, a < 0 → ∀ b, b < 0 → a ≠ b → (TJxc12de a).2.1 ≠ (TJxc12de b).2.1 := by decide +kernel
theorem tyJxc12de_ok : ∀ k, k < 0 → parseFieldDescriptor (TJxc12de k).2.2.1 = some (tyJxc12de k) := by decide +kernel
abbrev cJxc12de_init_da8c8 : ByteArray := prog_18_method_1_code
def yJxc12de_init_da8c8 : MethodName := ⟨RJxc12de, "<init>", "()V"⟩
def RJx4a65c : String := "java/util/ArrayList"
def TJx4a65c : u_T := fun k => match k with
  | 0 => ("java/util/AbstractList", "modCount", "I", false)
  | 1 => ("java/util/ArrayList", "elementData", "[Ljava/lang/Object;", false)
  | _ => ("java/util/ArrayList", "size", "I", false)
def tyJx4a65c : Nat → FieldType := fun k => match k with
  | 0 => .int
  | 1 => .array (.object "java/lang/Object")
  | _ => .int
abbrev wsJx4a65c0 : List Cond := u_ws RJx4a65c TJx4a65c 3
theorem nmJx4a65c : ∀ a, a < 3 → ∀ b, b < 3 → a ≠ b → (TJx4a65c a).2.1 ≠ (TJx4a65c b).2.1 := by decide +kernel
theorem tyJx4a65c_ok : ∀ k, k < 3 → parseFieldDescriptor (TJx4a65c k).2.2.1 = some (tyJx4a65c k) := by decide +kernel
abbrev cJx4a65c_init_da8c8 : ByteArray := prog_19_method_2_code
def yJx4a65c_init_da8c8 : MethodName := ⟨RJx4a65c, "<init>", "()V"⟩
abbrev cJx4a65c_grow_92f84 : ByteArray := prog_19_method_6_code
def yJx4a65c_grow_92f84 : MethodName := ⟨RJx4a65c, "grow", "(I)[Ljava/lang/Object;"⟩
abbrev cJx4a65c_grow_d5877 : ByteArray := prog_19_method_7_code
def yJx4a65c_grow_d5877 : MethodName := ⟨RJx4a65c, "grow", "()[Ljava/lang/Object;"⟩
abbrev cJx4a65c_size_8abf5 : ByteArray := prog_19_method_8_code
def yJx4a65c_size_8abf5 : MethodName := ⟨RJx4a65c, "size", "()I"⟩
abbrev cJx4a65c_elementData_915e3 : ByteArray := prog_19_method_18_code
def yJx4a65c_elementData_915e3 : MethodName := ⟨RJx4a65c, "elementData", "(I)Ljava/lang/Object;"⟩
abbrev cJx4a65c_get_915e3 : ByteArray := prog_19_method_20_code
def yJx4a65c_get_915e3 : MethodName := ⟨RJx4a65c, "get", "(I)Ljava/lang/Object;"⟩
abbrev cJx4a65c_add_72be8 : ByteArray := prog_19_method_24_code
def yJx4a65c_add_72be8 : MethodName := ⟨RJx4a65c, "add", "(Ljava/lang/Object;[Ljava/lang/Object;I)V"⟩
abbrev cJx4a65c_add_9ea2d : ByteArray := prog_19_method_25_code
def yJx4a65c_add_9ea2d : MethodName := ⟨RJx4a65c, "add", "(Ljava/lang/Object;)Z"⟩
abbrev cJx4a65c_remove_915e3 : ByteArray := prog_19_method_29_code
def yJx4a65c_remove_915e3 : MethodName := ⟨RJx4a65c, "remove", "(I)Ljava/lang/Object;"⟩
abbrev cJx4a65c_fastRemove_b59b0 : ByteArray := prog_19_method_39_code
def yJx4a65c_fastRemove_b59b0 : MethodName := ⟨RJx4a65c, "fastRemove", "([Ljava/lang/Object;I)V"⟩
def RJ7 : String := "java/util/Arrays"
def TJ7 : u_T := fun k => match k with
  | _ => ("", "", "", false)
def tyJ7 : Nat → FieldType := fun k => match k with
  | _ => .int
abbrev wsJ70 : List Cond := u_ws RJ7 TJ7 0
theorem nmJ7 : ∀ a, a < 0 → ∀ b, b < 0 → a ≠ b → (TJ7 a).2.1 ≠ (TJ7 b).2.1 := by decide +kernel
theorem tyJ7_ok : ∀ k, k < 0 → parseFieldDescriptor (TJ7 k).2.2.1 = some (tyJ7 k) := by decide +kernel
abbrev cJ7_copyOf_1904c : ByteArray := prog_20_method_119_code
def yJ7_copyOf_1904c : MethodName := ⟨RJ7, "copyOf", "([Ljava/lang/Object;I)[Ljava/lang/Object;"⟩
abbrev cJ7_copyOf_6403c : ByteArray := prog_20_method_120_code
def yJ7_copyOf_6403c : MethodName := ⟨RJ7, "copyOf", "([Ljava/lang/Object;ILjava/lang/Class;)[Ljava/lang/Object;"⟩
def RJx5ef63 : String := "java/util/Collection"
def TJx5ef63 : u_T := fun k => match k with
  | _ => ("", "", "", false)
def tyJx5ef63 : Nat → FieldType := fun k => match k with
  | _ => .int
abbrev wsJx5ef630 : List Cond := u_ws RJx5ef63 TJx5ef63 0
theorem nmJx5ef63 : ∀ a, a < 0 → ∀ b, b < 0 → a ≠ b → (TJx5ef63 a).2.1 ≠ (TJx5ef63 b).2.1 := by decide +kernel
theorem tyJx5ef63_ok : ∀ k, k < 0 → parseFieldDescriptor (TJx5ef63 k).2.2.1 = some (tyJx5ef63 k) := by decide +kernel
def RJxbd725 : String := "java/util/List"
def TJxbd725 : u_T := fun k => match k with
  | _ => ("", "", "", false)
def tyJxbd725 : Nat → FieldType := fun k => match k with
  | _ => .int
abbrev wsJxbd7250 : List Cond := u_ws RJxbd725 TJxbd725 0
theorem nmJxbd725 : ∀ a, a < 0 → ∀ b, b < 0 → a ≠ b → (TJxbd725 a).2.1 ≠ (TJxbd725 b).2.1 := by decide +kernel
theorem tyJxbd725_ok : ∀ k, k < 0 → parseFieldDescriptor (TJxbd725 k).2.2.1 = some (tyJxbd725 k) := by decide +kernel
def RJ15 : String := "java/util/Objects"
def TJ15 : u_T := fun k => match k with
  | _ => ("", "", "", false)
def tyJ15 : Nat → FieldType := fun k => match k with
  | _ => .int
abbrev wsJ150 : List Cond := u_ws RJ15 TJ15 0
theorem nmJ15 : ∀ a, a < 0 → ∀ b, b < 0 → a ≠ b → (TJ15 a).2.1 ≠ (TJ15 b).2.1 := by decide +kernel
theorem tyJ15_ok : ∀ k, k < 0 → parseFieldDescriptor (TJ15 k).2.2.1 = some (tyJ15 k) := by decide +kernel
abbrev cJ15_checkIndex_7cf53 : ByteArray := prog_23_method_17_code
def yJ15_checkIndex_7cf53 : MethodName := ⟨RJ15, "checkIndex", "(II)I"⟩
def RJxf0a74 : String := "java/util/RandomAccess"
def TJxf0a74 : u_T := fun k => match k with
  | _ => ("", "", "", false)
def tyJxf0a74 : Nat → FieldType := fun k => match k with
  | _ => .int
abbrev wsJxf0a740 : List Cond := u_ws RJxf0a74 TJxf0a74 0
theorem nmJxf0a74 : ∀ a, a < 0 → ∀ b, b < 0 → a ≠ b → (TJxf0a74 a).2.1 ≠ (TJxf0a74 b).2.1 := by decide +kernel
theorem tyJxf0a74_ok : ∀ k, k < 0 → parseFieldDescriptor (TJxf0a74 k).2.2.1 = some (tyJxf0a74 k) := by decide +kernel
def RJxa66e6 : String := "java/util/SequencedCollection"
def TJxa66e6 : u_T := fun k => match k with
  | _ => ("", "", "", false)
def tyJxa66e6 : Nat → FieldType := fun k => match k with
  | _ => .int
abbrev wsJxa66e60 : List Cond := u_ws RJxa66e6 TJxa66e6 0
theorem nmJxa66e6 : ∀ a, a < 0 → ∀ b, b < 0 → a ≠ b → (TJxa66e6 a).2.1 ≠ (TJxa66e6 b).2.1 := by decide +kernel
theorem tyJxa66e6_ok : ∀ k, k < 0 → parseFieldDescriptor (TJxa66e6 k).2.2.1 = some (tyJxa66e6 k) := by decide +kernel
def RJ8 : String := "jdk/internal/util/ArraysSupport"
def TJ8 : u_T := fun k => match k with
  | _ => ("", "", "", false)
def tyJ8 : Nat → FieldType := fun k => match k with
  | _ => .int
abbrev wsJ80 : List Cond := u_ws RJ8 TJ8 0
theorem nmJ8 : ∀ a, a < 0 → ∀ b, b < 0 → a ≠ b → (TJ8 a).2.1 ≠ (TJ8 b).2.1 := by decide +kernel
theorem tyJ8_ok : ∀ k, k < 0 → parseFieldDescriptor (TJ8 k).2.2.1 = some (tyJ8 k) := by decide +kernel
abbrev cJ8_newLength_cabcc : ByteArray := prog_26_method_27_code
def yJ8_newLength_cabcc : MethodName := ⟨RJ8, "newLength", "(III)I"⟩
abbrev cJ8_hugeLength_7cf53 : ByteArray := prog_26_method_28_code
def yJ8_hugeLength_7cf53 : MethodName := ⟨RJ8, "hugeLength", "(II)I"⟩
def RJ3 : String := "jdk/internal/util/Preconditions"
def TJ3 : u_T := fun k => match k with
  | _ => ("", "", "", false)
def tyJ3 : Nat → FieldType := fun k => match k with
  | _ => .int
abbrev wsJ30 : List Cond := u_ws RJ3 TJ3 0
theorem nmJ3 : ∀ a, a < 0 → ∀ b, b < 0 → a ≠ b → (TJ3 a).2.1 ≠ (TJ3 b).2.1 := by decide +kernel
theorem tyJ3_ok : ∀ k, k < 0 → parseFieldDescriptor (TJ3 k).2.2.1 = some (tyJ3 k) := by decide +kernel
abbrev cJ3_checkIndex_8e157 : ByteArray := prog_27_method_11_code
def yJ3_checkIndex_8e157 : MethodName := ⟨RJ3, "checkIndex", "(IILjava/util/function/BiFunction;)I"⟩
def RL : String := "CrossingKeeperLaw"
abbrev cL_law : ByteArray := code
def yL_law : MethodName := ⟨RL, "law", "([I)Z"⟩
abbrev vwCl : List vw_C := [(RJx4a65c, TJx4a65c, 3), (RX0, TX0, 1), (RX1, TX1, 4), (RX2, TX2, 5), (RX3, TX3, 3), (RX4, TX4, 5), (RX5, TX5, 4), (RX6, TX6, 18), (RX7, TX7, 2), (RX8, TX8, 16), (RX9, TX9, 53)]
/-- the words that a method is given: all of the table's that stay -/
def yTs : List Cond := lw_tbl.filter goodWord
theorem yt_in {w : Cond} (i : Nat) (h : tables_1[i]? = some w) (g : goodWord w = true) : w ∈ yTs := List.mem_filter.mpr ⟨List.mem_append_right _ (List.mem_of_getElem? h), g⟩
theorem yt_sel {w : Cond} (i : Nat) (h : (k2_sels lw_privs)[i]? = some w) (g : goodWord w = true) : w ∈ yTs := List.mem_filter.mpr ⟨List.mem_append_left _ (List.mem_of_getElem? h), g⟩
theorem yt_all {ws : List Cond} (h : ws.all (fun w => decide (w ∈ lw_tbl) && goodWord w) = true) : ∀ w ∈ ws, w ∈ yTs := fun w hw => by
  have h1 := List.all_eq_true.mp h w hw
  simp only [Bool.and_eq_true, decide_eq_true_eq] at h1
  exact List.mem_filter.mpr h1
theorem yt_good : GoodIn yTs yTs := fun w hw => ⟨hw, good_of_word (List.mem_filter.mp hw).2⟩
theorem yt_code {c : Cond} (h : c ∈ yTs) : GoodIn yTs (c :: yTs) := fun w hw => by
  rcases List.mem_cons.mp hw with rfl | hw
  · exact yt_good _ h
  · exact yt_good _ hw
