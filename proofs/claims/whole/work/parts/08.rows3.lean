section Rows3
variable {Z : (Nat → Prop) → State → Prop} {D : va_G} {dA : Nat → ClassId} {p : Program} {l : Launch} {e : Env} {R : Room} {s : State} {m : MethodId} {args : Array Value} {below : List Frame} {meth : Method} {c : Code} {cc : ByteArray} {nL : Nat} {own : String} {A : Nat → Prop} {cells slots : Nat} {Q : State → Prop} {pc : Nat} {lv : List (Option Value)} {st : List Value} {h : yH}
/-- a class that may be made: number ci of vwCl, linked at idx; its fields' first values fs -/
def yNw (own : String) (idx ci N : Nat) (fs : List Value) : Prop := ∃ (R : String) (T : u_T) (tt : Nat → FieldType), vwCl[ci]? = some (R, T, N) ∧ (∀ w ∈ u_ws R T N, w ∈ yTs) ∧ (∀ j, j < N → parseFieldDescriptor (T j).2.2.1 = some (tt j)) ∧ Cond.classLink own idx R ∈ yTs ∧ Cond.instantiable R N ∈ yTs ∧ Cond.initialized R ∈ yTs ∧ ∀ j, j < N → defaultValue (tt j) = vp_V fs j
theorem yr_new (pc2 : Nat) (C : yC Z D dA p s m args meth c cc nL own A) {idx ci N : Nat} {fs : List Value} (d : decode cc pc = .ok (.new idx, 3)) (hl : yNw own idx ci N fs) (h1 : cells + 1 ≤ R.cells) (h2 : slots + N ≤ R.slots) (hp : pc + 3 = pc2) (kk : ∀ q : Nat, h q = none → yW p l e R s m args below meth c nL D A (cells + 1) (slots + N) Q pc2 lv (.ref q :: st) (va_up h q (some (.inr (ci, fs))))) : yW p l e R s m args below meth c nL D A cells slots Q pc lv (st) (h) := fun H locs ls a1 b w => by
  subst hp
  obtain ⟨Rn, T, tt, e1, e2, e3, e4, e5, e6, e7⟩ := hl
  obtain ⟨ws, hP, hD, hpush⟩ := yd_list b
  exact va_new C.1 C.2.1 C.2.2.2.2.1 e2 tt e3 C.2.2.2.1 (C.2.2.2.2.1 _ e4) (C.2.2.2.2.1 _ e5) (C.2.2.2.2.1 _ e6) C.2.2.2.2.2.1 hP hD w C.2.2.2.2.2.2.2.1 e1 e7 h1 h2 d (fun q H1 hP1 hD1 hS1 => kk q (hpush _ _ _ hP1 hD1).1 H1 locs ls a1 (hpush _ _ _ hP1 hD1).2 hS1)
theorem yr_newaI (pc2 : Nat) (C : yC Z D dA p s m args meth c cc nL own A) {n : Int32} (N' : Nat) (d : decode cc pc = .ok (.newarray .int, 2)) (hc : Cond.arrayClass .int ∈ yTs) (hn : ¬ n < 0) (hN : n.toNatClampNeg = N') (hb : N' * componentBytes .int ≤ 536870912) (h1 : cells + 1 ≤ R.cells) (h2 : slots + N' ≤ R.slots) (hp : pc + 2 = pc2) (kk : ∀ q : Nat, h q = none → yW p l e R s m args below meth c nL D A (cells + 1) (slots + N') Q pc2 lv (.ref q :: st) (va_up h q (some (.inl (dA 0, N', .inl (fun _ => 0)))))) : yW p l e R s m args below meth c nL D A cells slots Q pc lv (.int n :: st) (h) := fun H locs ls a1 b w => by
  subst hp
  obtain ⟨ws, hP, hD, hpush⟩ := yd_list b
  have hK := C.2.2.2.2.2.1
  refine va_newa (atype := .int) (a0 := (N', .inl (fun _ => 0))) C.1 C.2.1 (C.2.2.2.2.1 _ hc) rfl hK hP hD w C.2.2.2.2.2.2.2.1 (fun cA => rfl) hn hN hb h1 h2 d (fun q cA H1 hK1 hP1 hD1 hS1 => ?_)
  have e1 : va_RA s cA .int := (hK1.2 6 (cA, .int) rfl).2
  have e2 : va_RA s (dA 0) .int := (hK.2 0 (dA 0, .int) rfl).2
  have e3 : cA = dA 0 := Option.some.inj (e1.symm.trans e2)
  subst e3
  exact kk q (hpush _ _ _ hP1 hD1).1 H1 locs ls a1 (hpush _ _ _ hP1 hD1).2 hS1
theorem yr_newaB (pc2 : Nat) (C : yC Z D dA p s m args meth c cc nL own A) {n : Int32} (N' : Nat) (d : decode cc pc = .ok (.newarray .byte, 2)) (hc : Cond.arrayClass .byte ∈ yTs) (hn : ¬ n < 0) (hN : n.toNatClampNeg = N') (hb : N' * componentBytes .byte ≤ 536870912) (h1 : cells + 1 ≤ R.cells) (h2 : slots + N' ≤ R.slots) (hp : pc + 2 = pc2) (kk : ∀ q : Nat, h q = none → yW p l e R s m args below meth c nL D A (cells + 1) (slots + N') Q pc2 lv (.ref q :: st) (va_up h q (some (.inl (dA 1, N', .inl (fun _ => 0)))))) : yW p l e R s m args below meth c nL D A cells slots Q pc lv (.int n :: st) (h) := fun H locs ls a1 b w => by
  subst hp
  obtain ⟨ws, hP, hD, hpush⟩ := yd_list b
  have hK := C.2.2.2.2.2.1
  refine va_newa (atype := .byte) (a0 := (N', .inl (fun _ => 0))) C.1 C.2.1 (C.2.2.2.2.1 _ hc) rfl hK hP hD w C.2.2.2.2.2.2.2.1 (fun cA => rfl) hn hN hb h1 h2 d (fun q cA H1 hK1 hP1 hD1 hS1 => ?_)
  have e1 : va_RA s cA .byte := (hK1.2 6 (cA, .byte) rfl).2
  have e2 : va_RA s (dA 1) .byte := (hK.2 1 (dA 1, .byte) rfl).2
  have e3 : cA = dA 1 := Option.some.inj (e1.symm.trans e2)
  subst e3
  exact kk q (hpush _ _ _ hP1 hD1).1 H1 locs ls a1 (hpush _ _ _ hP1 hD1).2 hS1
theorem yr_newaS (pc2 : Nat) (C : yC Z D dA p s m args meth c cc nL own A) {n : Int32} (N' : Nat) (d : decode cc pc = .ok (.newarray .short, 2)) (hc : Cond.arrayClass .short ∈ yTs) (hn : ¬ n < 0) (hN : n.toNatClampNeg = N') (hb : N' * componentBytes .short ≤ 536870912) (h1 : cells + 1 ≤ R.cells) (h2 : slots + N' ≤ R.slots) (hp : pc + 2 = pc2) (kk : ∀ q : Nat, h q = none → yW p l e R s m args below meth c nL D A (cells + 1) (slots + N') Q pc2 lv (.ref q :: st) (va_up h q (some (.inl (dA 2, N', .inl (fun _ => 0)))))) : yW p l e R s m args below meth c nL D A cells slots Q pc lv (.int n :: st) (h) := fun H locs ls a1 b w => by
  subst hp
  obtain ⟨ws, hP, hD, hpush⟩ := yd_list b
  have hK := C.2.2.2.2.2.1
  refine va_newa (atype := .short) (a0 := (N', .inl (fun _ => 0))) C.1 C.2.1 (C.2.2.2.2.1 _ hc) rfl hK hP hD w C.2.2.2.2.2.2.2.1 (fun cA => rfl) hn hN hb h1 h2 d (fun q cA H1 hK1 hP1 hD1 hS1 => ?_)
  have e1 : va_RA s cA .short := (hK1.2 6 (cA, .short) rfl).2
  have e2 : va_RA s (dA 2) .short := (hK.2 2 (dA 2, .short) rfl).2
  have e3 : cA = dA 2 := Option.some.inj (e1.symm.trans e2)
  subst e3
  exact kk q (hpush _ _ _ hP1 hD1).1 H1 locs ls a1 (hpush _ _ _ hP1 hD1).2 hS1
theorem yr_newaZ (pc2 : Nat) (C : yC Z D dA p s m args meth c cc nL own A) {n : Int32} (N' : Nat) (d : decode cc pc = .ok (.newarray .boolean, 2)) (hc : Cond.arrayClass .boolean ∈ yTs) (hn : ¬ n < 0) (hN : n.toNatClampNeg = N') (hb : N' * componentBytes .boolean ≤ 536870912) (h1 : cells + 1 ≤ R.cells) (h2 : slots + N' ≤ R.slots) (hp : pc + 2 = pc2) (kk : ∀ q : Nat, h q = none → yW p l e R s m args below meth c nL D A (cells + 1) (slots + N') Q pc2 lv (.ref q :: st) (va_up h q (some (.inl (dA 3, N', .inl (fun _ => 0)))))) : yW p l e R s m args below meth c nL D A cells slots Q pc lv (.int n :: st) (h) := fun H locs ls a1 b w => by
  subst hp
  obtain ⟨ws, hP, hD, hpush⟩ := yd_list b
  have hK := C.2.2.2.2.2.1
  refine va_newa (atype := .boolean) (a0 := (N', .inl (fun _ => 0))) C.1 C.2.1 (C.2.2.2.2.1 _ hc) rfl hK hP hD w C.2.2.2.2.2.2.2.1 (fun cA => rfl) hn hN hb h1 h2 d (fun q cA H1 hK1 hP1 hD1 hS1 => ?_)
  have e1 : va_RA s cA .boolean := (hK1.2 6 (cA, .boolean) rfl).2
  have e2 : va_RA s (dA 3) .boolean := (hK.2 3 (dA 3, .boolean) rfl).2
  have e3 : cA = dA 3 := Option.some.inj (e1.symm.trans e2)
  subst e3
  exact kk q (hpush _ _ _ hP1 hD1).1 H1 locs ls a1 (hpush _ _ _ hP1 hD1).2 hS1
theorem yr_objInit (pc2 : Nat) (C : yC Z D dA p s m args meth c cc nL own A) {idx a : Nat} (d : decode cc pc = .ok (.invokespecial idx, 3)) (e1 : Cond.methodLink own idx objectInit ∈ yTs) (e2 : Cond.instanceMethod objectInit ∈ yTs) (e3 : Cond.code objectInit ⟨#[0xb1]⟩ 1 none ∈ yTs) (h1 : 1 ≤ R.frames) (h2 : (st.map fun v => v.category).sum + 12 ≤ R.locals) (hp : pc + 3 = pc2) (k : yW p l e R s m args below meth c nL D A cells slots Q pc2 lv (st) (h)) : yW p l e R s m args below meth c nL D A cells slots Q pc lv (.ref a :: st) (h) := fun H locs ls a1 b w => by
  subst hp
  obtain ⟨lw, q1, q2⟩ := id a1
  refine W.objInit C.1 C.2.1 C.2.2.2.1 (C.2.2.2.2.1 _ e1) (C.2.2.2.2.1 _ e2) (C.2.2.2.2.1 _ e3) rfl (by rw [C.2.2.1]; exact q1.1) rfl d h1 ?_ (k H locs ls a1 b w)
  have hm : 2 * (F0 m pc ls (.ref a :: st)).monitorRoom = 0 := rfl
  omega
/-- a method: its words are in the table -/
def yMt (y : MethodName) (cc : ByteArray) (nL : Nat) (ret : Option FieldType) (n : Nat) : Prop := Cond.code y cc nL ret ∈ yTs ∧ Cond.initialized y.cls ∈ yTs ∧ y.cls ≠ "java/lang/invoke/MethodHandle" ∧ y.cls ≠ "java/lang/invoke/VarHandle" ∧ (parseMethodDescriptor y.desc).map (fun d => d.parameters.length) = some n
def yMv (y : MethodName) : Prop := Cond.instanceMethod y ∈ yTs ∧ Cond.selects y.cls y y ∈ yTs
theorem yd_pre {Z : (Nat → Prop) → State → Prop} {D : va_G} {dA : Nat → ClassId} {s : State} {A : Nat → Prop} {H : Heap} {h : yH} {locs : List Loc} (hz : Z A s) (hZ : yZok D dA Z) (hA : ∀ q, s.heap.size ≤ q → A q) (b : yd_at D h A H) (w : va_S A s.heap H locs) (U : State) (hU : U.heap = H) (hW : s.WarmedH U.vm) : U.heap.size = H.size ∧ yd_at D h (fun _ => True) U.heap ∧ Z (yA h H.size) U := by
  refine ⟨by rw [hU], by rw [hU]; exact yd_weak b (fun _ _ _ _ => trivial), hZ.2.2 A _ s U hW (fun q h1 h2 => by rw [hU]; exact w.2.1 q h1 h2) (fun q h1 h2 => ?_) hz⟩
  rcases h2 with ⟨e, he⟩ | h2
  · exact (yd_in b he).1
  · have := w.1
    omega
theorem yd_blind {Z : (Nat → Prop) → State → Prop} {D : va_G} {dA : Nat → ClassId} (hZ : yZok D dA Z) {As : List Value} {sz : Nat} {h : yH} : FrameBlind (va_Pc As (fun U => U.heap.size = sz ∧ yd_at D h (fun _ => True) U.heap ∧ Z (yA h sz) U)) := fun a U g mk q => by
  obtain ⟨q0, q1, q2, q3⟩ := q
  exact ⟨q0, q1, q2, hZ.2.1 _ U _ rfl rfl q3⟩
theorem yr_after (C : yC Z D dA p s m args meth c cc nL own A) {B : Option Value} {rest : List Value} {mc ms : Nat} {QQ : Option Value → yH → Prop} {H : Heap} {locs : List Loc} {ls : Array Slot} {st0 : List Value} {aa : Array Value} (a1 : yd_lv ls nL lv) (b : yd_at D h A H) (w : va_S A s.heap H locs)
    (hr : va_Run p l e R s m args below meth c H locs cells slots mc ms (F0 m pc ls st0) rest (yQc D (yA h H.size) QQ aa) (yA h H.size))
    (kk : ∀ (r : Option Value) (h' : yH), QQ r h' → yW p l e R s m args below meth c nL D A (cells + mc) (slots + ms) Q (pc + 3) lv (r.toList ++ rest) (h')) : W p l e R s m args below meth c H locs cells slots Q (F0 m pc ls st0) := by
  intro T hT X
  obtain ⟨v, st₀, t, T', L, e1, X', hL, e2, e3, ⟨⟨r, h', c1, c2, c3⟩, c4⟩, go⟩ := hr T hT X
  cases c1
  have hAA : ∀ q, q < H.size → yA h H.size q → A q := fun q h1 h2 => by
    rcases h2 with ⟨x, hx⟩ | h2
    · exact (yd_in b hx).1
    · omega
  have hbig : ∀ q, yA h H.size q → A q := fun q h2 => by
    rcases h2 with ⟨x, hx⟩ | h2
    · exact (yd_in b hx).1
    · exact C.2.2.2.2.2.2.2.1 q (by have := w.1; omega)
  have hS' : va_S A s.heap t.heap (locs ++ L) := by
    refine ⟨by have := w.1; have := c4.1; rw [e1] at this; omega, fun q h1 h2 => ?_, fun q hq => ?_⟩
    · have h3 : q < H.size := by have := w.1; omega
      have := c4.2 q (by rw [e1]; exact h3) (fun z => h2 (hAA q h3 z))
      rw [this, e1]
      exact w.2.1 q h1 h2
    · rcases List.mem_append.mp hq with h1 | h1
      · exact w.2.2 q h1
      · exact hbig _ (hL q h1)
  obtain ⟨t2, s2, q2⟩ := kk _ h' c2 t.heap (locs ++ L) ls a1 (yd_weak c3 (fun a e _ hA => hbig a hA)) hS' T' e2 X'
  exact ⟨t2, go t2 s2, q2⟩
theorem yr_callV (pc2 : Nat) (C : yC Z D dA p s m args meth c cc nL own A) {y : MethodName} {cc' : ByteArray} {nL' : Nat} {ret' : Option FieldType} {k mc ms n idx : Nat} {QQ : Option Value → yH → Prop} {a ci : Nat} {fs : List Value} (As : List Value) (hM : yM Z D y cc' nL' ret' k mc ms (.ref a :: As) h QQ) (d : decode cc pc = .ok (.invokevirtual idx, 3)) (ht : yMt y cc' nL' ret' n) (hv : yMv y) (hl : Cond.methodLink own idx y ∈ yTs) (ha : h a = some (.inr (ci, fs))) (hci : (vwCl[ci]?).map (·.1) = some y.cls) (hn : As.length = n) (h1 : k + 1 ≤ R.frames) (h2 : 8 + (nL' + 11) + 40 * k ≤ R.locals) (h3 : cells + mc ≤ R.cells) (h4 : slots + ms ≤ R.slots) (h5 : (st.map fun v => v.category).sum ≤ 8) (hp : pc + 3 = pc2) (kk : ∀ (r : Option Value) (h' : yH), QQ r h' → yW p l e R s m args below meth c nL D A (cells + mc) (slots + ms) Q pc2 lv (r.toList ++ st) (h')) : yW p l e R s m args below meth c nL D A cells slots Q pc lv (As.reverse ++ .ref a :: st) (h) := fun H locs ls a1 b w => by
  subst hp
  obtain ⟨lw, q1, q2⟩ := id a1
  obtain ⟨t1, t2, t3, t4, t5⟩ := ht
  obtain ⟨rr, hrr, hrr2⟩ : ∃ rr : vw_C, vwCl[ci]? = some rr ∧ rr.1 = y.cls := by
    cases hx : vwCl[ci]? with
    | none => rw [hx] at hci; cases hci
    | some rr => rw [hx] at hci; exact ⟨rr, rfl, Option.some.inj hci⟩
  obtain ⟨ws, q0, hP, hD, hq, -⟩ := yd_pos b ha
  have hrc : ∃ cell : Cell, H[a]? = some cell ∧ cell.vm.isStatics = false ∧ s.vm.findClass y.cls = some cell.cls := by
    rw [← hrr2]
    exact va_recv C.2.2.2.2.2.1 hP hrr hq
  have hG : GoodIn yTs (wsV own idx y.cls y (Cond.code y cc' nL' ret' :: yTs)) := by
    intro w hw
    rcases List.mem_append.mp hw with hw | hw
    · simp only [List.mem_cons, List.not_mem_nil, or_false] at hw
      rcases hw with rfl | rfl | rfl | rfl
      · exact yt_good _ hl
      · exact yt_good _ hv.1
      · exact yt_good _ hv.2
      · exact yt_good _ t2
    · exact yt_code t1 w hw
  refine yr_after C (B := none) a1 b w (va_runV (As := As) (rest := st) ⟨C.1, C.2.1, C.2.2.1, C.2.2.2.1, C.2.2.2.2.1⟩ (hM l H.size) (cwV n C.2.2.2.2.1 hG rfl rfl rfl ⟨rfl, t3, t4, t5⟩ ⟨h1, h2⟩) ⟨yd_blind C.2.2.2.2.2.2.2.2.2, hrc, fun U hU hW => ⟨rfl, yd_pre C.2.2.2.2.2.2.2.2.1 C.2.2.2.2.2.2.2.2.2 C.2.2.2.2.2.2.2.1 b w U hU hW⟩⟩ rfl hn q1.1 rfl (lv_room h5) d ⟨h3, h4⟩) kk
theorem yr_callS (pc2 : Nat) (C : yC Z D dA p s m args meth c cc nL own A) {y : MethodName} {cc' : ByteArray} {nL' : Nat} {ret' : Option FieldType} {k mc ms n idx : Nat} {QQ : Option Value → yH → Prop} (As : List Value) (hM : yM Z D y cc' nL' ret' k mc ms As h QQ) (d : decode cc pc = .ok (.invokestatic idx, 3)) (ht : yMt y cc' nL' ret' n) (hs : Cond.static y ∈ yTs) (hl : Cond.methodLink own idx y ∈ yTs) (hn : As.length = n) (h1 : k + 1 ≤ R.frames) (h2 : 8 + (nL' + 11) + 40 * k ≤ R.locals) (h3 : cells + mc ≤ R.cells) (h4 : slots + ms ≤ R.slots) (h5 : (st.map fun v => v.category).sum ≤ 8) (hp : pc + 3 = pc2) (kk : ∀ (r : Option Value) (h' : yH), QQ r h' → yW p l e R s m args below meth c nL D A (cells + mc) (slots + ms) Q pc2 lv (r.toList ++ st) (h')) : yW p l e R s m args below meth c nL D A cells slots Q pc lv (As.reverse ++ st) (h) := fun H locs ls a1 b w => by
  subst hp
  obtain ⟨lw, q1, q2⟩ := id a1
  obtain ⟨t1, t2, t3, t4, t5⟩ := ht
  have hG : GoodIn yTs (va_wsS own idx y (Cond.code y cc' nL' ret' :: yTs)) := by
    intro w hw
    rcases List.mem_append.mp hw with hw | hw
    · simp only [List.mem_cons, List.not_mem_nil, or_false] at hw
      rcases hw with rfl | rfl | rfl
      · exact yt_good _ hl
      · exact yt_good _ hs
      · exact yt_good _ t2
    · exact yt_code t1 w hw
  refine yr_after C (B := none) a1 b w (va_runS (As := As) (rest := st) ⟨C.1, C.2.1, C.2.2.1, C.2.2.2.1, C.2.2.2.2.1⟩ (hM l H.size) (va_cwS n C.2.2.2.2.1 hG rfl rfl rfl ⟨t3, t4, t5⟩ ⟨h1, h2⟩) ⟨yd_blind C.2.2.2.2.2.2.2.2.2, fun U hU hW => ⟨rfl, yd_pre C.2.2.2.2.2.2.2.2.1 C.2.2.2.2.2.2.2.2.2 C.2.2.2.2.2.2.2.1 b w U hU hW⟩⟩ rfl hn q1.1 rfl (lv_room h5) d ⟨h3, h4⟩) kk
theorem yr_callI (pc2 : Nat) (C : yC Z D dA p s m args meth c cc nL own A) {y : MethodName} {cc' : ByteArray} {nL' : Nat} {k mc ms n idx : Nat} {QQ : Option Value → yH → Prop} {a : Nat} (As : List Value) (hM : yM Z D y cc' nL' none k mc ms (.ref a :: As) h QQ) (d : decode cc pc = .ok (.invokespecial idx, 3)) (ht : yMt y cc' nL' none n) (hy : y.name = "<init>") (hv : Cond.instanceMethod y ∈ yTs) (hl : Cond.methodLink own idx y ∈ yTs) (hn : As.length = n) (h1 : k + 1 ≤ R.frames) (h2 : 8 + (nL' + 11) + 40 * k ≤ R.locals) (h3 : cells + mc ≤ R.cells) (h4 : slots + ms ≤ R.slots) (h5 : (st.map fun v => v.category).sum ≤ 8) (hp : pc + 3 = pc2) (kk : ∀ (r : Option Value) (h' : yH), QQ r h' → yW p l e R s m args below meth c nL D A (cells + mc) (slots + ms) Q pc2 lv (r.toList ++ st) (h')) : yW p l e R s m args below meth c nL D A cells slots Q pc lv (As.reverse ++ .ref a :: st) (h) := fun H locs ls a1 b w => by
  subst hp
  obtain ⟨lw, q1, q2⟩ := id a1
  obtain ⟨t1, t2, t3, t4, t5⟩ := ht
  refine yr_after C (B := none) a1 b w (va_runI (As := As) (rest := st) ⟨C.1, C.2.1, C.2.2.1, C.2.2.2.1, C.2.2.2.2.1⟩ (hM l H.size) (cwI n C.2.2.2.2.1 (yt_code t1) rfl rfl rfl (C.2.2.2.2.1 _ t2) (C.2.2.2.2.1 _ hl) (C.2.2.2.2.1 _ hv) hy ⟨t3, t4, t5⟩ ⟨h1, h2⟩) ⟨yd_blind C.2.2.2.2.2.2.2.2.2, fun U hU hW => ⟨rfl, yd_pre C.2.2.2.2.2.2.2.2.1 C.2.2.2.2.2.2.2.2.2 C.2.2.2.2.2.2.2.1 b w U hU hW⟩⟩ rfl hn q1.1 rfl (lv_room h5) d ⟨h3, h4⟩) kk
theorem yr_V0v (pc2 : Nat) (C : yC Z D dA p s m args meth c cc nL own A) {y : MethodName} {cc' : ByteArray} {nL' : Nat} {ret' : Option FieldType} {k mc ms idx : Nat} {PP : yH → Prop} {rv : Value} {a ci : Nat} {fs : List Value} (hM : yM Z D y cc' nL' ret' k mc ms (.ref a :: []) h (fun r h' => r = some rv ∧ PP h')) (d : decode cc pc = .ok (.invokevirtual idx, 3)) (ht : yMt y cc' nL' ret' 0) (hv : yMv y) (hl : Cond.methodLink own idx y ∈ yTs) (ha : h a = some (.inr (ci, fs))) (hci : (vwCl[ci]?).map (·.1) = some y.cls) (h1 : k + 1 ≤ R.frames) (h2 : 8 + (nL' + 11) + 40 * k ≤ R.locals) (h3 : cells + mc ≤ R.cells) (h4 : slots + ms ≤ R.slots) (h5 : (st.map fun v => v.category).sum ≤ 8) (hp : pc + 3 = pc2) (kk : ∀ h' : yH, PP h' → yW p l e R s m args below meth c nL D A (cells + mc) (slots + ms) Q pc2 lv (rv :: st) (h')) : yW p l e R s m args below meth c nL D A cells slots Q pc lv (.ref a :: st) (h) := by
  refine yr_callV pc2 C [] hM d ht hv hl ha hci rfl h1 h2 h3 h4 h5 hp (fun r h' hq => ?_)
  obtain ⟨rfl, hq⟩ := hq
  exact kk h' hq
theorem yr_V0u (pc2 : Nat) (C : yC Z D dA p s m args meth c cc nL own A) {y : MethodName} {cc' : ByteArray} {nL' : Nat} {ret' : Option FieldType} {k mc ms idx : Nat} {PP : yH → Prop} {a ci : Nat} {fs : List Value} (hM : yM Z D y cc' nL' ret' k mc ms (.ref a :: []) h (fun r h' => r = none ∧ PP h')) (d : decode cc pc = .ok (.invokevirtual idx, 3)) (ht : yMt y cc' nL' ret' 0) (hv : yMv y) (hl : Cond.methodLink own idx y ∈ yTs) (ha : h a = some (.inr (ci, fs))) (hci : (vwCl[ci]?).map (·.1) = some y.cls) (h1 : k + 1 ≤ R.frames) (h2 : 8 + (nL' + 11) + 40 * k ≤ R.locals) (h3 : cells + mc ≤ R.cells) (h4 : slots + ms ≤ R.slots) (h5 : (st.map fun v => v.category).sum ≤ 8) (hp : pc + 3 = pc2) (kk : ∀ h' : yH, PP h' → yW p l e R s m args below meth c nL D A (cells + mc) (slots + ms) Q pc2 lv (st) (h')) : yW p l e R s m args below meth c nL D A cells slots Q pc lv (.ref a :: st) (h) := by
  refine yr_callV pc2 C [] hM d ht hv hl ha hci rfl h1 h2 h3 h4 h5 hp (fun r h' hq => ?_)
  obtain ⟨rfl, hq⟩ := hq
  exact kk h' hq
theorem yr_S0v (pc2 : Nat) (C : yC Z D dA p s m args meth c cc nL own A) {y : MethodName} {cc' : ByteArray} {nL' : Nat} {ret' : Option FieldType} {k mc ms idx : Nat} {PP : yH → Prop} {rv : Value} (hM : yM Z D y cc' nL' ret' k mc ms [] h (fun r h' => r = some rv ∧ PP h')) (d : decode cc pc = .ok (.invokestatic idx, 3)) (ht : yMt y cc' nL' ret' 0) (hs : Cond.static y ∈ yTs) (hl : Cond.methodLink own idx y ∈ yTs) (h1 : k + 1 ≤ R.frames) (h2 : 8 + (nL' + 11) + 40 * k ≤ R.locals) (h3 : cells + mc ≤ R.cells) (h4 : slots + ms ≤ R.slots) (h5 : (st.map fun v => v.category).sum ≤ 8) (hp : pc + 3 = pc2) (kk : ∀ h' : yH, PP h' → yW p l e R s m args below meth c nL D A (cells + mc) (slots + ms) Q pc2 lv (rv :: st) (h')) : yW p l e R s m args below meth c nL D A cells slots Q pc lv (st) (h) := by
  refine yr_callS pc2 C [] hM d ht hs hl rfl h1 h2 h3 h4 h5 hp (fun r h' hq => ?_)
  obtain ⟨rfl, hq⟩ := hq
  exact kk h' hq
theorem yr_S0u (pc2 : Nat) (C : yC Z D dA p s m args meth c cc nL own A) {y : MethodName} {cc' : ByteArray} {nL' : Nat} {ret' : Option FieldType} {k mc ms idx : Nat} {PP : yH → Prop} (hM : yM Z D y cc' nL' ret' k mc ms [] h (fun r h' => r = none ∧ PP h')) (d : decode cc pc = .ok (.invokestatic idx, 3)) (ht : yMt y cc' nL' ret' 0) (hs : Cond.static y ∈ yTs) (hl : Cond.methodLink own idx y ∈ yTs) (h1 : k + 1 ≤ R.frames) (h2 : 8 + (nL' + 11) + 40 * k ≤ R.locals) (h3 : cells + mc ≤ R.cells) (h4 : slots + ms ≤ R.slots) (h5 : (st.map fun v => v.category).sum ≤ 8) (hp : pc + 3 = pc2) (kk : ∀ h' : yH, PP h' → yW p l e R s m args below meth c nL D A (cells + mc) (slots + ms) Q pc2 lv (st) (h')) : yW p l e R s m args below meth c nL D A cells slots Q pc lv (st) (h) := by
  refine yr_callS pc2 C [] hM d ht hs hl rfl h1 h2 h3 h4 h5 hp (fun r h' hq => ?_)
  obtain ⟨rfl, hq⟩ := hq
  exact kk h' hq
theorem yr_I0u (pc2 : Nat) (C : yC Z D dA p s m args meth c cc nL own A) {y : MethodName} {cc' : ByteArray} {nL' : Nat} {k mc ms idx : Nat} {PP : yH → Prop} {a : Nat} (hM : yM Z D y cc' nL' none k mc ms (.ref a :: []) h (fun r h' => r = none ∧ PP h')) (d : decode cc pc = .ok (.invokespecial idx, 3)) (ht : yMt y cc' nL' none 0) (hy : y.name = "<init>") (hv : Cond.instanceMethod y ∈ yTs) (hl : Cond.methodLink own idx y ∈ yTs) (h1 : k + 1 ≤ R.frames) (h2 : 8 + (nL' + 11) + 40 * k ≤ R.locals) (h3 : cells + mc ≤ R.cells) (h4 : slots + ms ≤ R.slots) (h5 : (st.map fun v => v.category).sum ≤ 8) (hp : pc + 3 = pc2) (kk : ∀ h' : yH, PP h' → yW p l e R s m args below meth c nL D A (cells + mc) (slots + ms) Q pc2 lv (st) (h')) : yW p l e R s m args below meth c nL D A cells slots Q pc lv (.ref a :: st) (h) := by
  refine yr_callI pc2 C [] hM d ht hy hv hl rfl h1 h2 h3 h4 h5 hp (fun r h' hq => ?_)
  obtain ⟨rfl, hq⟩ := hq
  exact kk h' hq
theorem yr_V1v (pc2 : Nat) (C : yC Z D dA p s m args meth c cc nL own A) {y : MethodName} {cc' : ByteArray} {nL' : Nat} {ret' : Option FieldType} {k mc ms idx : Nat} {PP : yH → Prop} {rv : Value} {a ci : Nat} {fs : List Value} {v1 : Value} (hM : yM Z D y cc' nL' ret' k mc ms (.ref a :: [v1]) h (fun r h' => r = some rv ∧ PP h')) (d : decode cc pc = .ok (.invokevirtual idx, 3)) (ht : yMt y cc' nL' ret' 1) (hv : yMv y) (hl : Cond.methodLink own idx y ∈ yTs) (ha : h a = some (.inr (ci, fs))) (hci : (vwCl[ci]?).map (·.1) = some y.cls) (h1 : k + 1 ≤ R.frames) (h2 : 8 + (nL' + 11) + 40 * k ≤ R.locals) (h3 : cells + mc ≤ R.cells) (h4 : slots + ms ≤ R.slots) (h5 : (st.map fun v => v.category).sum ≤ 8) (hp : pc + 3 = pc2) (kk : ∀ h' : yH, PP h' → yW p l e R s m args below meth c nL D A (cells + mc) (slots + ms) Q pc2 lv (rv :: st) (h')) : yW p l e R s m args below meth c nL D A cells slots Q pc lv (v1 :: .ref a :: st) (h) := by
  refine yr_callV pc2 C [v1] hM d ht hv hl ha hci rfl h1 h2 h3 h4 h5 hp (fun r h' hq => ?_)
  obtain ⟨rfl, hq⟩ := hq
  exact kk h' hq
theorem yr_V1u (pc2 : Nat) (C : yC Z D dA p s m args meth c cc nL own A) {y : MethodName} {cc' : ByteArray} {nL' : Nat} {ret' : Option FieldType} {k mc ms idx : Nat} {PP : yH → Prop} {a ci : Nat} {fs : List Value} {v1 : Value} (hM : yM Z D y cc' nL' ret' k mc ms (.ref a :: [v1]) h (fun r h' => r = none ∧ PP h')) (d : decode cc pc = .ok (.invokevirtual idx, 3)) (ht : yMt y cc' nL' ret' 1) (hv : yMv y) (hl : Cond.methodLink own idx y ∈ yTs) (ha : h a = some (.inr (ci, fs))) (hci : (vwCl[ci]?).map (·.1) = some y.cls) (h1 : k + 1 ≤ R.frames) (h2 : 8 + (nL' + 11) + 40 * k ≤ R.locals) (h3 : cells + mc ≤ R.cells) (h4 : slots + ms ≤ R.slots) (h5 : (st.map fun v => v.category).sum ≤ 8) (hp : pc + 3 = pc2) (kk : ∀ h' : yH, PP h' → yW p l e R s m args below meth c nL D A (cells + mc) (slots + ms) Q pc2 lv (st) (h')) : yW p l e R s m args below meth c nL D A cells slots Q pc lv (v1 :: .ref a :: st) (h) := by
  refine yr_callV pc2 C [v1] hM d ht hv hl ha hci rfl h1 h2 h3 h4 h5 hp (fun r h' hq => ?_)
  obtain ⟨rfl, hq⟩ := hq
  exact kk h' hq
theorem yr_S1v (pc2 : Nat) (C : yC Z D dA p s m args meth c cc nL own A) {y : MethodName} {cc' : ByteArray} {nL' : Nat} {ret' : Option FieldType} {k mc ms idx : Nat} {PP : yH → Prop} {rv : Value} {v1 : Value} (hM : yM Z D y cc' nL' ret' k mc ms [v1] h (fun r h' => r = some rv ∧ PP h')) (d : decode cc pc = .ok (.invokestatic idx, 3)) (ht : yMt y cc' nL' ret' 1) (hs : Cond.static y ∈ yTs) (hl : Cond.methodLink own idx y ∈ yTs) (h1 : k + 1 ≤ R.frames) (h2 : 8 + (nL' + 11) + 40 * k ≤ R.locals) (h3 : cells + mc ≤ R.cells) (h4 : slots + ms ≤ R.slots) (h5 : (st.map fun v => v.category).sum ≤ 8) (hp : pc + 3 = pc2) (kk : ∀ h' : yH, PP h' → yW p l e R s m args below meth c nL D A (cells + mc) (slots + ms) Q pc2 lv (rv :: st) (h')) : yW p l e R s m args below meth c nL D A cells slots Q pc lv (v1 :: st) (h) := by
  refine yr_callS pc2 C [v1] hM d ht hs hl rfl h1 h2 h3 h4 h5 hp (fun r h' hq => ?_)
  obtain ⟨rfl, hq⟩ := hq
  exact kk h' hq
theorem yr_S1u (pc2 : Nat) (C : yC Z D dA p s m args meth c cc nL own A) {y : MethodName} {cc' : ByteArray} {nL' : Nat} {ret' : Option FieldType} {k mc ms idx : Nat} {PP : yH → Prop} {v1 : Value} (hM : yM Z D y cc' nL' ret' k mc ms [v1] h (fun r h' => r = none ∧ PP h')) (d : decode cc pc = .ok (.invokestatic idx, 3)) (ht : yMt y cc' nL' ret' 1) (hs : Cond.static y ∈ yTs) (hl : Cond.methodLink own idx y ∈ yTs) (h1 : k + 1 ≤ R.frames) (h2 : 8 + (nL' + 11) + 40 * k ≤ R.locals) (h3 : cells + mc ≤ R.cells) (h4 : slots + ms ≤ R.slots) (h5 : (st.map fun v => v.category).sum ≤ 8) (hp : pc + 3 = pc2) (kk : ∀ h' : yH, PP h' → yW p l e R s m args below meth c nL D A (cells + mc) (slots + ms) Q pc2 lv (st) (h')) : yW p l e R s m args below meth c nL D A cells slots Q pc lv (v1 :: st) (h) := by
  refine yr_callS pc2 C [v1] hM d ht hs hl rfl h1 h2 h3 h4 h5 hp (fun r h' hq => ?_)
  obtain ⟨rfl, hq⟩ := hq
  exact kk h' hq
theorem yr_I1u (pc2 : Nat) (C : yC Z D dA p s m args meth c cc nL own A) {y : MethodName} {cc' : ByteArray} {nL' : Nat} {k mc ms idx : Nat} {PP : yH → Prop} {a : Nat} {v1 : Value} (hM : yM Z D y cc' nL' none k mc ms (.ref a :: [v1]) h (fun r h' => r = none ∧ PP h')) (d : decode cc pc = .ok (.invokespecial idx, 3)) (ht : yMt y cc' nL' none 1) (hy : y.name = "<init>") (hv : Cond.instanceMethod y ∈ yTs) (hl : Cond.methodLink own idx y ∈ yTs) (h1 : k + 1 ≤ R.frames) (h2 : 8 + (nL' + 11) + 40 * k ≤ R.locals) (h3 : cells + mc ≤ R.cells) (h4 : slots + ms ≤ R.slots) (h5 : (st.map fun v => v.category).sum ≤ 8) (hp : pc + 3 = pc2) (kk : ∀ h' : yH, PP h' → yW p l e R s m args below meth c nL D A (cells + mc) (slots + ms) Q pc2 lv (st) (h')) : yW p l e R s m args below meth c nL D A cells slots Q pc lv (v1 :: .ref a :: st) (h) := by
  refine yr_callI pc2 C [v1] hM d ht hy hv hl rfl h1 h2 h3 h4 h5 hp (fun r h' hq => ?_)
  obtain ⟨rfl, hq⟩ := hq
  exact kk h' hq
theorem yr_V2v (pc2 : Nat) (C : yC Z D dA p s m args meth c cc nL own A) {y : MethodName} {cc' : ByteArray} {nL' : Nat} {ret' : Option FieldType} {k mc ms idx : Nat} {PP : yH → Prop} {rv : Value} {a ci : Nat} {fs : List Value} {v1 v2 : Value} (hM : yM Z D y cc' nL' ret' k mc ms (.ref a :: [v1, v2]) h (fun r h' => r = some rv ∧ PP h')) (d : decode cc pc = .ok (.invokevirtual idx, 3)) (ht : yMt y cc' nL' ret' 2) (hv : yMv y) (hl : Cond.methodLink own idx y ∈ yTs) (ha : h a = some (.inr (ci, fs))) (hci : (vwCl[ci]?).map (·.1) = some y.cls) (h1 : k + 1 ≤ R.frames) (h2 : 8 + (nL' + 11) + 40 * k ≤ R.locals) (h3 : cells + mc ≤ R.cells) (h4 : slots + ms ≤ R.slots) (h5 : (st.map fun v => v.category).sum ≤ 8) (hp : pc + 3 = pc2) (kk : ∀ h' : yH, PP h' → yW p l e R s m args below meth c nL D A (cells + mc) (slots + ms) Q pc2 lv (rv :: st) (h')) : yW p l e R s m args below meth c nL D A cells slots Q pc lv (v2 :: v1 :: .ref a :: st) (h) := by
  refine yr_callV pc2 C [v1, v2] hM d ht hv hl ha hci rfl h1 h2 h3 h4 h5 hp (fun r h' hq => ?_)
  obtain ⟨rfl, hq⟩ := hq
  exact kk h' hq
theorem yr_V2u (pc2 : Nat) (C : yC Z D dA p s m args meth c cc nL own A) {y : MethodName} {cc' : ByteArray} {nL' : Nat} {ret' : Option FieldType} {k mc ms idx : Nat} {PP : yH → Prop} {a ci : Nat} {fs : List Value} {v1 v2 : Value} (hM : yM Z D y cc' nL' ret' k mc ms (.ref a :: [v1, v2]) h (fun r h' => r = none ∧ PP h')) (d : decode cc pc = .ok (.invokevirtual idx, 3)) (ht : yMt y cc' nL' ret' 2) (hv : yMv y) (hl : Cond.methodLink own idx y ∈ yTs) (ha : h a = some (.inr (ci, fs))) (hci : (vwCl[ci]?).map (·.1) = some y.cls) (h1 : k + 1 ≤ R.frames) (h2 : 8 + (nL' + 11) + 40 * k ≤ R.locals) (h3 : cells + mc ≤ R.cells) (h4 : slots + ms ≤ R.slots) (h5 : (st.map fun v => v.category).sum ≤ 8) (hp : pc + 3 = pc2) (kk : ∀ h' : yH, PP h' → yW p l e R s m args below meth c nL D A (cells + mc) (slots + ms) Q pc2 lv (st) (h')) : yW p l e R s m args below meth c nL D A cells slots Q pc lv (v2 :: v1 :: .ref a :: st) (h) := by
  refine yr_callV pc2 C [v1, v2] hM d ht hv hl ha hci rfl h1 h2 h3 h4 h5 hp (fun r h' hq => ?_)
  obtain ⟨rfl, hq⟩ := hq
  exact kk h' hq
theorem yr_S2v (pc2 : Nat) (C : yC Z D dA p s m args meth c cc nL own A) {y : MethodName} {cc' : ByteArray} {nL' : Nat} {ret' : Option FieldType} {k mc ms idx : Nat} {PP : yH → Prop} {rv : Value} {v1 v2 : Value} (hM : yM Z D y cc' nL' ret' k mc ms [v1, v2] h (fun r h' => r = some rv ∧ PP h')) (d : decode cc pc = .ok (.invokestatic idx, 3)) (ht : yMt y cc' nL' ret' 2) (hs : Cond.static y ∈ yTs) (hl : Cond.methodLink own idx y ∈ yTs) (h1 : k + 1 ≤ R.frames) (h2 : 8 + (nL' + 11) + 40 * k ≤ R.locals) (h3 : cells + mc ≤ R.cells) (h4 : slots + ms ≤ R.slots) (h5 : (st.map fun v => v.category).sum ≤ 8) (hp : pc + 3 = pc2) (kk : ∀ h' : yH, PP h' → yW p l e R s m args below meth c nL D A (cells + mc) (slots + ms) Q pc2 lv (rv :: st) (h')) : yW p l e R s m args below meth c nL D A cells slots Q pc lv (v2 :: v1 :: st) (h) := by
  refine yr_callS pc2 C [v1, v2] hM d ht hs hl rfl h1 h2 h3 h4 h5 hp (fun r h' hq => ?_)
  obtain ⟨rfl, hq⟩ := hq
  exact kk h' hq
theorem yr_S2u (pc2 : Nat) (C : yC Z D dA p s m args meth c cc nL own A) {y : MethodName} {cc' : ByteArray} {nL' : Nat} {ret' : Option FieldType} {k mc ms idx : Nat} {PP : yH → Prop} {v1 v2 : Value} (hM : yM Z D y cc' nL' ret' k mc ms [v1, v2] h (fun r h' => r = none ∧ PP h')) (d : decode cc pc = .ok (.invokestatic idx, 3)) (ht : yMt y cc' nL' ret' 2) (hs : Cond.static y ∈ yTs) (hl : Cond.methodLink own idx y ∈ yTs) (h1 : k + 1 ≤ R.frames) (h2 : 8 + (nL' + 11) + 40 * k ≤ R.locals) (h3 : cells + mc ≤ R.cells) (h4 : slots + ms ≤ R.slots) (h5 : (st.map fun v => v.category).sum ≤ 8) (hp : pc + 3 = pc2) (kk : ∀ h' : yH, PP h' → yW p l e R s m args below meth c nL D A (cells + mc) (slots + ms) Q pc2 lv (st) (h')) : yW p l e R s m args below meth c nL D A cells slots Q pc lv (v2 :: v1 :: st) (h) := by
  refine yr_callS pc2 C [v1, v2] hM d ht hs hl rfl h1 h2 h3 h4 h5 hp (fun r h' hq => ?_)
  obtain ⟨rfl, hq⟩ := hq
  exact kk h' hq
theorem yr_I2u (pc2 : Nat) (C : yC Z D dA p s m args meth c cc nL own A) {y : MethodName} {cc' : ByteArray} {nL' : Nat} {k mc ms idx : Nat} {PP : yH → Prop} {a : Nat} {v1 v2 : Value} (hM : yM Z D y cc' nL' none k mc ms (.ref a :: [v1, v2]) h (fun r h' => r = none ∧ PP h')) (d : decode cc pc = .ok (.invokespecial idx, 3)) (ht : yMt y cc' nL' none 2) (hy : y.name = "<init>") (hv : Cond.instanceMethod y ∈ yTs) (hl : Cond.methodLink own idx y ∈ yTs) (h1 : k + 1 ≤ R.frames) (h2 : 8 + (nL' + 11) + 40 * k ≤ R.locals) (h3 : cells + mc ≤ R.cells) (h4 : slots + ms ≤ R.slots) (h5 : (st.map fun v => v.category).sum ≤ 8) (hp : pc + 3 = pc2) (kk : ∀ h' : yH, PP h' → yW p l e R s m args below meth c nL D A (cells + mc) (slots + ms) Q pc2 lv (st) (h')) : yW p l e R s m args below meth c nL D A cells slots Q pc lv (v2 :: v1 :: .ref a :: st) (h) := by
  refine yr_callI pc2 C [v1, v2] hM d ht hy hv hl rfl h1 h2 h3 h4 h5 hp (fun r h' hq => ?_)
  obtain ⟨rfl, hq⟩ := hq
  exact kk h' hq
theorem yr_V3v (pc2 : Nat) (C : yC Z D dA p s m args meth c cc nL own A) {y : MethodName} {cc' : ByteArray} {nL' : Nat} {ret' : Option FieldType} {k mc ms idx : Nat} {PP : yH → Prop} {rv : Value} {a ci : Nat} {fs : List Value} {v1 v2 v3 : Value} (hM : yM Z D y cc' nL' ret' k mc ms (.ref a :: [v1, v2, v3]) h (fun r h' => r = some rv ∧ PP h')) (d : decode cc pc = .ok (.invokevirtual idx, 3)) (ht : yMt y cc' nL' ret' 3) (hv : yMv y) (hl : Cond.methodLink own idx y ∈ yTs) (ha : h a = some (.inr (ci, fs))) (hci : (vwCl[ci]?).map (·.1) = some y.cls) (h1 : k + 1 ≤ R.frames) (h2 : 8 + (nL' + 11) + 40 * k ≤ R.locals) (h3 : cells + mc ≤ R.cells) (h4 : slots + ms ≤ R.slots) (h5 : (st.map fun v => v.category).sum ≤ 8) (hp : pc + 3 = pc2) (kk : ∀ h' : yH, PP h' → yW p l e R s m args below meth c nL D A (cells + mc) (slots + ms) Q pc2 lv (rv :: st) (h')) : yW p l e R s m args below meth c nL D A cells slots Q pc lv (v3 :: v2 :: v1 :: .ref a :: st) (h) := by
  refine yr_callV pc2 C [v1, v2, v3] hM d ht hv hl ha hci rfl h1 h2 h3 h4 h5 hp (fun r h' hq => ?_)
  obtain ⟨rfl, hq⟩ := hq
  exact kk h' hq
theorem yr_V3u (pc2 : Nat) (C : yC Z D dA p s m args meth c cc nL own A) {y : MethodName} {cc' : ByteArray} {nL' : Nat} {ret' : Option FieldType} {k mc ms idx : Nat} {PP : yH → Prop} {a ci : Nat} {fs : List Value} {v1 v2 v3 : Value} (hM : yM Z D y cc' nL' ret' k mc ms (.ref a :: [v1, v2, v3]) h (fun r h' => r = none ∧ PP h')) (d : decode cc pc = .ok (.invokevirtual idx, 3)) (ht : yMt y cc' nL' ret' 3) (hv : yMv y) (hl : Cond.methodLink own idx y ∈ yTs) (ha : h a = some (.inr (ci, fs))) (hci : (vwCl[ci]?).map (·.1) = some y.cls) (h1 : k + 1 ≤ R.frames) (h2 : 8 + (nL' + 11) + 40 * k ≤ R.locals) (h3 : cells + mc ≤ R.cells) (h4 : slots + ms ≤ R.slots) (h5 : (st.map fun v => v.category).sum ≤ 8) (hp : pc + 3 = pc2) (kk : ∀ h' : yH, PP h' → yW p l e R s m args below meth c nL D A (cells + mc) (slots + ms) Q pc2 lv (st) (h')) : yW p l e R s m args below meth c nL D A cells slots Q pc lv (v3 :: v2 :: v1 :: .ref a :: st) (h) := by
  refine yr_callV pc2 C [v1, v2, v3] hM d ht hv hl ha hci rfl h1 h2 h3 h4 h5 hp (fun r h' hq => ?_)
  obtain ⟨rfl, hq⟩ := hq
  exact kk h' hq
theorem yr_S3v (pc2 : Nat) (C : yC Z D dA p s m args meth c cc nL own A) {y : MethodName} {cc' : ByteArray} {nL' : Nat} {ret' : Option FieldType} {k mc ms idx : Nat} {PP : yH → Prop} {rv : Value} {v1 v2 v3 : Value} (hM : yM Z D y cc' nL' ret' k mc ms [v1, v2, v3] h (fun r h' => r = some rv ∧ PP h')) (d : decode cc pc = .ok (.invokestatic idx, 3)) (ht : yMt y cc' nL' ret' 3) (hs : Cond.static y ∈ yTs) (hl : Cond.methodLink own idx y ∈ yTs) (h1 : k + 1 ≤ R.frames) (h2 : 8 + (nL' + 11) + 40 * k ≤ R.locals) (h3 : cells + mc ≤ R.cells) (h4 : slots + ms ≤ R.slots) (h5 : (st.map fun v => v.category).sum ≤ 8) (hp : pc + 3 = pc2) (kk : ∀ h' : yH, PP h' → yW p l e R s m args below meth c nL D A (cells + mc) (slots + ms) Q pc2 lv (rv :: st) (h')) : yW p l e R s m args below meth c nL D A cells slots Q pc lv (v3 :: v2 :: v1 :: st) (h) := by
  refine yr_callS pc2 C [v1, v2, v3] hM d ht hs hl rfl h1 h2 h3 h4 h5 hp (fun r h' hq => ?_)
  obtain ⟨rfl, hq⟩ := hq
  exact kk h' hq
theorem yr_S3u (pc2 : Nat) (C : yC Z D dA p s m args meth c cc nL own A) {y : MethodName} {cc' : ByteArray} {nL' : Nat} {ret' : Option FieldType} {k mc ms idx : Nat} {PP : yH → Prop} {v1 v2 v3 : Value} (hM : yM Z D y cc' nL' ret' k mc ms [v1, v2, v3] h (fun r h' => r = none ∧ PP h')) (d : decode cc pc = .ok (.invokestatic idx, 3)) (ht : yMt y cc' nL' ret' 3) (hs : Cond.static y ∈ yTs) (hl : Cond.methodLink own idx y ∈ yTs) (h1 : k + 1 ≤ R.frames) (h2 : 8 + (nL' + 11) + 40 * k ≤ R.locals) (h3 : cells + mc ≤ R.cells) (h4 : slots + ms ≤ R.slots) (h5 : (st.map fun v => v.category).sum ≤ 8) (hp : pc + 3 = pc2) (kk : ∀ h' : yH, PP h' → yW p l e R s m args below meth c nL D A (cells + mc) (slots + ms) Q pc2 lv (st) (h')) : yW p l e R s m args below meth c nL D A cells slots Q pc lv (v3 :: v2 :: v1 :: st) (h) := by
  refine yr_callS pc2 C [v1, v2, v3] hM d ht hs hl rfl h1 h2 h3 h4 h5 hp (fun r h' hq => ?_)
  obtain ⟨rfl, hq⟩ := hq
  exact kk h' hq
theorem yr_I3u (pc2 : Nat) (C : yC Z D dA p s m args meth c cc nL own A) {y : MethodName} {cc' : ByteArray} {nL' : Nat} {k mc ms idx : Nat} {PP : yH → Prop} {a : Nat} {v1 v2 v3 : Value} (hM : yM Z D y cc' nL' none k mc ms (.ref a :: [v1, v2, v3]) h (fun r h' => r = none ∧ PP h')) (d : decode cc pc = .ok (.invokespecial idx, 3)) (ht : yMt y cc' nL' none 3) (hy : y.name = "<init>") (hv : Cond.instanceMethod y ∈ yTs) (hl : Cond.methodLink own idx y ∈ yTs) (h1 : k + 1 ≤ R.frames) (h2 : 8 + (nL' + 11) + 40 * k ≤ R.locals) (h3 : cells + mc ≤ R.cells) (h4 : slots + ms ≤ R.slots) (h5 : (st.map fun v => v.category).sum ≤ 8) (hp : pc + 3 = pc2) (kk : ∀ h' : yH, PP h' → yW p l e R s m args below meth c nL D A (cells + mc) (slots + ms) Q pc2 lv (st) (h')) : yW p l e R s m args below meth c nL D A cells slots Q pc lv (v3 :: v2 :: v1 :: .ref a :: st) (h) := by
  refine yr_callI pc2 C [v1, v2, v3] hM d ht hy hv hl rfl h1 h2 h3 h4 h5 hp (fun r h' hq => ?_)
  obtain ⟨rfl, hq⟩ := hq
  exact kk h' hq
theorem yr_V4v (pc2 : Nat) (C : yC Z D dA p s m args meth c cc nL own A) {y : MethodName} {cc' : ByteArray} {nL' : Nat} {ret' : Option FieldType} {k mc ms idx : Nat} {PP : yH → Prop} {rv : Value} {a ci : Nat} {fs : List Value} {v1 v2 v3 v4 : Value} (hM : yM Z D y cc' nL' ret' k mc ms (.ref a :: [v1, v2, v3, v4]) h (fun r h' => r = some rv ∧ PP h')) (d : decode cc pc = .ok (.invokevirtual idx, 3)) (ht : yMt y cc' nL' ret' 4) (hv : yMv y) (hl : Cond.methodLink own idx y ∈ yTs) (ha : h a = some (.inr (ci, fs))) (hci : (vwCl[ci]?).map (·.1) = some y.cls) (h1 : k + 1 ≤ R.frames) (h2 : 8 + (nL' + 11) + 40 * k ≤ R.locals) (h3 : cells + mc ≤ R.cells) (h4 : slots + ms ≤ R.slots) (h5 : (st.map fun v => v.category).sum ≤ 8) (hp : pc + 3 = pc2) (kk : ∀ h' : yH, PP h' → yW p l e R s m args below meth c nL D A (cells + mc) (slots + ms) Q pc2 lv (rv :: st) (h')) : yW p l e R s m args below meth c nL D A cells slots Q pc lv (v4 :: v3 :: v2 :: v1 :: .ref a :: st) (h) := by
  refine yr_callV pc2 C [v1, v2, v3, v4] hM d ht hv hl ha hci rfl h1 h2 h3 h4 h5 hp (fun r h' hq => ?_)
  obtain ⟨rfl, hq⟩ := hq
  exact kk h' hq
theorem yr_V4u (pc2 : Nat) (C : yC Z D dA p s m args meth c cc nL own A) {y : MethodName} {cc' : ByteArray} {nL' : Nat} {ret' : Option FieldType} {k mc ms idx : Nat} {PP : yH → Prop} {a ci : Nat} {fs : List Value} {v1 v2 v3 v4 : Value} (hM : yM Z D y cc' nL' ret' k mc ms (.ref a :: [v1, v2, v3, v4]) h (fun r h' => r = none ∧ PP h')) (d : decode cc pc = .ok (.invokevirtual idx, 3)) (ht : yMt y cc' nL' ret' 4) (hv : yMv y) (hl : Cond.methodLink own idx y ∈ yTs) (ha : h a = some (.inr (ci, fs))) (hci : (vwCl[ci]?).map (·.1) = some y.cls) (h1 : k + 1 ≤ R.frames) (h2 : 8 + (nL' + 11) + 40 * k ≤ R.locals) (h3 : cells + mc ≤ R.cells) (h4 : slots + ms ≤ R.slots) (h5 : (st.map fun v => v.category).sum ≤ 8) (hp : pc + 3 = pc2) (kk : ∀ h' : yH, PP h' → yW p l e R s m args below meth c nL D A (cells + mc) (slots + ms) Q pc2 lv (st) (h')) : yW p l e R s m args below meth c nL D A cells slots Q pc lv (v4 :: v3 :: v2 :: v1 :: .ref a :: st) (h) := by
  refine yr_callV pc2 C [v1, v2, v3, v4] hM d ht hv hl ha hci rfl h1 h2 h3 h4 h5 hp (fun r h' hq => ?_)
  obtain ⟨rfl, hq⟩ := hq
  exact kk h' hq
theorem yr_S4v (pc2 : Nat) (C : yC Z D dA p s m args meth c cc nL own A) {y : MethodName} {cc' : ByteArray} {nL' : Nat} {ret' : Option FieldType} {k mc ms idx : Nat} {PP : yH → Prop} {rv : Value} {v1 v2 v3 v4 : Value} (hM : yM Z D y cc' nL' ret' k mc ms [v1, v2, v3, v4] h (fun r h' => r = some rv ∧ PP h')) (d : decode cc pc = .ok (.invokestatic idx, 3)) (ht : yMt y cc' nL' ret' 4) (hs : Cond.static y ∈ yTs) (hl : Cond.methodLink own idx y ∈ yTs) (h1 : k + 1 ≤ R.frames) (h2 : 8 + (nL' + 11) + 40 * k ≤ R.locals) (h3 : cells + mc ≤ R.cells) (h4 : slots + ms ≤ R.slots) (h5 : (st.map fun v => v.category).sum ≤ 8) (hp : pc + 3 = pc2) (kk : ∀ h' : yH, PP h' → yW p l e R s m args below meth c nL D A (cells + mc) (slots + ms) Q pc2 lv (rv :: st) (h')) : yW p l e R s m args below meth c nL D A cells slots Q pc lv (v4 :: v3 :: v2 :: v1 :: st) (h) := by
  refine yr_callS pc2 C [v1, v2, v3, v4] hM d ht hs hl rfl h1 h2 h3 h4 h5 hp (fun r h' hq => ?_)
  obtain ⟨rfl, hq⟩ := hq
  exact kk h' hq
theorem yr_S4u (pc2 : Nat) (C : yC Z D dA p s m args meth c cc nL own A) {y : MethodName} {cc' : ByteArray} {nL' : Nat} {ret' : Option FieldType} {k mc ms idx : Nat} {PP : yH → Prop} {v1 v2 v3 v4 : Value} (hM : yM Z D y cc' nL' ret' k mc ms [v1, v2, v3, v4] h (fun r h' => r = none ∧ PP h')) (d : decode cc pc = .ok (.invokestatic idx, 3)) (ht : yMt y cc' nL' ret' 4) (hs : Cond.static y ∈ yTs) (hl : Cond.methodLink own idx y ∈ yTs) (h1 : k + 1 ≤ R.frames) (h2 : 8 + (nL' + 11) + 40 * k ≤ R.locals) (h3 : cells + mc ≤ R.cells) (h4 : slots + ms ≤ R.slots) (h5 : (st.map fun v => v.category).sum ≤ 8) (hp : pc + 3 = pc2) (kk : ∀ h' : yH, PP h' → yW p l e R s m args below meth c nL D A (cells + mc) (slots + ms) Q pc2 lv (st) (h')) : yW p l e R s m args below meth c nL D A cells slots Q pc lv (v4 :: v3 :: v2 :: v1 :: st) (h) := by
  refine yr_callS pc2 C [v1, v2, v3, v4] hM d ht hs hl rfl h1 h2 h3 h4 h5 hp (fun r h' hq => ?_)
  obtain ⟨rfl, hq⟩ := hq
  exact kk h' hq
theorem yr_I4u (pc2 : Nat) (C : yC Z D dA p s m args meth c cc nL own A) {y : MethodName} {cc' : ByteArray} {nL' : Nat} {k mc ms idx : Nat} {PP : yH → Prop} {a : Nat} {v1 v2 v3 v4 : Value} (hM : yM Z D y cc' nL' none k mc ms (.ref a :: [v1, v2, v3, v4]) h (fun r h' => r = none ∧ PP h')) (d : decode cc pc = .ok (.invokespecial idx, 3)) (ht : yMt y cc' nL' none 4) (hy : y.name = "<init>") (hv : Cond.instanceMethod y ∈ yTs) (hl : Cond.methodLink own idx y ∈ yTs) (h1 : k + 1 ≤ R.frames) (h2 : 8 + (nL' + 11) + 40 * k ≤ R.locals) (h3 : cells + mc ≤ R.cells) (h4 : slots + ms ≤ R.slots) (h5 : (st.map fun v => v.category).sum ≤ 8) (hp : pc + 3 = pc2) (kk : ∀ h' : yH, PP h' → yW p l e R s m args below meth c nL D A (cells + mc) (slots + ms) Q pc2 lv (st) (h')) : yW p l e R s m args below meth c nL D A cells slots Q pc lv (v4 :: v3 :: v2 :: v1 :: .ref a :: st) (h) := by
  refine yr_callI pc2 C [v1, v2, v3, v4] hM d ht hy hv hl rfl h1 h2 h3 h4 h5 hp (fun r h' hq => ?_)
  obtain ⟨rfl, hq⟩ := hq
  exact kk h' hq
theorem yr_V5v (pc2 : Nat) (C : yC Z D dA p s m args meth c cc nL own A) {y : MethodName} {cc' : ByteArray} {nL' : Nat} {ret' : Option FieldType} {k mc ms idx : Nat} {PP : yH → Prop} {rv : Value} {a ci : Nat} {fs : List Value} {v1 v2 v3 v4 v5 : Value} (hM : yM Z D y cc' nL' ret' k mc ms (.ref a :: [v1, v2, v3, v4, v5]) h (fun r h' => r = some rv ∧ PP h')) (d : decode cc pc = .ok (.invokevirtual idx, 3)) (ht : yMt y cc' nL' ret' 5) (hv : yMv y) (hl : Cond.methodLink own idx y ∈ yTs) (ha : h a = some (.inr (ci, fs))) (hci : (vwCl[ci]?).map (·.1) = some y.cls) (h1 : k + 1 ≤ R.frames) (h2 : 8 + (nL' + 11) + 40 * k ≤ R.locals) (h3 : cells + mc ≤ R.cells) (h4 : slots + ms ≤ R.slots) (h5 : (st.map fun v => v.category).sum ≤ 8) (hp : pc + 3 = pc2) (kk : ∀ h' : yH, PP h' → yW p l e R s m args below meth c nL D A (cells + mc) (slots + ms) Q pc2 lv (rv :: st) (h')) : yW p l e R s m args below meth c nL D A cells slots Q pc lv (v5 :: v4 :: v3 :: v2 :: v1 :: .ref a :: st) (h) := by
  refine yr_callV pc2 C [v1, v2, v3, v4, v5] hM d ht hv hl ha hci rfl h1 h2 h3 h4 h5 hp (fun r h' hq => ?_)
  obtain ⟨rfl, hq⟩ := hq
  exact kk h' hq
theorem yr_V5u (pc2 : Nat) (C : yC Z D dA p s m args meth c cc nL own A) {y : MethodName} {cc' : ByteArray} {nL' : Nat} {ret' : Option FieldType} {k mc ms idx : Nat} {PP : yH → Prop} {a ci : Nat} {fs : List Value} {v1 v2 v3 v4 v5 : Value} (hM : yM Z D y cc' nL' ret' k mc ms (.ref a :: [v1, v2, v3, v4, v5]) h (fun r h' => r = none ∧ PP h')) (d : decode cc pc = .ok (.invokevirtual idx, 3)) (ht : yMt y cc' nL' ret' 5) (hv : yMv y) (hl : Cond.methodLink own idx y ∈ yTs) (ha : h a = some (.inr (ci, fs))) (hci : (vwCl[ci]?).map (·.1) = some y.cls) (h1 : k + 1 ≤ R.frames) (h2 : 8 + (nL' + 11) + 40 * k ≤ R.locals) (h3 : cells + mc ≤ R.cells) (h4 : slots + ms ≤ R.slots) (h5 : (st.map fun v => v.category).sum ≤ 8) (hp : pc + 3 = pc2) (kk : ∀ h' : yH, PP h' → yW p l e R s m args below meth c nL D A (cells + mc) (slots + ms) Q pc2 lv (st) (h')) : yW p l e R s m args below meth c nL D A cells slots Q pc lv (v5 :: v4 :: v3 :: v2 :: v1 :: .ref a :: st) (h) := by
  refine yr_callV pc2 C [v1, v2, v3, v4, v5] hM d ht hv hl ha hci rfl h1 h2 h3 h4 h5 hp (fun r h' hq => ?_)
  obtain ⟨rfl, hq⟩ := hq
  exact kk h' hq
theorem yr_S5v (pc2 : Nat) (C : yC Z D dA p s m args meth c cc nL own A) {y : MethodName} {cc' : ByteArray} {nL' : Nat} {ret' : Option FieldType} {k mc ms idx : Nat} {PP : yH → Prop} {rv : Value} {v1 v2 v3 v4 v5 : Value} (hM : yM Z D y cc' nL' ret' k mc ms [v1, v2, v3, v4, v5] h (fun r h' => r = some rv ∧ PP h')) (d : decode cc pc = .ok (.invokestatic idx, 3)) (ht : yMt y cc' nL' ret' 5) (hs : Cond.static y ∈ yTs) (hl : Cond.methodLink own idx y ∈ yTs) (h1 : k + 1 ≤ R.frames) (h2 : 8 + (nL' + 11) + 40 * k ≤ R.locals) (h3 : cells + mc ≤ R.cells) (h4 : slots + ms ≤ R.slots) (h5 : (st.map fun v => v.category).sum ≤ 8) (hp : pc + 3 = pc2) (kk : ∀ h' : yH, PP h' → yW p l e R s m args below meth c nL D A (cells + mc) (slots + ms) Q pc2 lv (rv :: st) (h')) : yW p l e R s m args below meth c nL D A cells slots Q pc lv (v5 :: v4 :: v3 :: v2 :: v1 :: st) (h) := by
  refine yr_callS pc2 C [v1, v2, v3, v4, v5] hM d ht hs hl rfl h1 h2 h3 h4 h5 hp (fun r h' hq => ?_)
  obtain ⟨rfl, hq⟩ := hq
  exact kk h' hq
theorem yr_S5u (pc2 : Nat) (C : yC Z D dA p s m args meth c cc nL own A) {y : MethodName} {cc' : ByteArray} {nL' : Nat} {ret' : Option FieldType} {k mc ms idx : Nat} {PP : yH → Prop} {v1 v2 v3 v4 v5 : Value} (hM : yM Z D y cc' nL' ret' k mc ms [v1, v2, v3, v4, v5] h (fun r h' => r = none ∧ PP h')) (d : decode cc pc = .ok (.invokestatic idx, 3)) (ht : yMt y cc' nL' ret' 5) (hs : Cond.static y ∈ yTs) (hl : Cond.methodLink own idx y ∈ yTs) (h1 : k + 1 ≤ R.frames) (h2 : 8 + (nL' + 11) + 40 * k ≤ R.locals) (h3 : cells + mc ≤ R.cells) (h4 : slots + ms ≤ R.slots) (h5 : (st.map fun v => v.category).sum ≤ 8) (hp : pc + 3 = pc2) (kk : ∀ h' : yH, PP h' → yW p l e R s m args below meth c nL D A (cells + mc) (slots + ms) Q pc2 lv (st) (h')) : yW p l e R s m args below meth c nL D A cells slots Q pc lv (v5 :: v4 :: v3 :: v2 :: v1 :: st) (h) := by
  refine yr_callS pc2 C [v1, v2, v3, v4, v5] hM d ht hs hl rfl h1 h2 h3 h4 h5 hp (fun r h' hq => ?_)
  obtain ⟨rfl, hq⟩ := hq
  exact kk h' hq
theorem yr_I5u (pc2 : Nat) (C : yC Z D dA p s m args meth c cc nL own A) {y : MethodName} {cc' : ByteArray} {nL' : Nat} {k mc ms idx : Nat} {PP : yH → Prop} {a : Nat} {v1 v2 v3 v4 v5 : Value} (hM : yM Z D y cc' nL' none k mc ms (.ref a :: [v1, v2, v3, v4, v5]) h (fun r h' => r = none ∧ PP h')) (d : decode cc pc = .ok (.invokespecial idx, 3)) (ht : yMt y cc' nL' none 5) (hy : y.name = "<init>") (hv : Cond.instanceMethod y ∈ yTs) (hl : Cond.methodLink own idx y ∈ yTs) (h1 : k + 1 ≤ R.frames) (h2 : 8 + (nL' + 11) + 40 * k ≤ R.locals) (h3 : cells + mc ≤ R.cells) (h4 : slots + ms ≤ R.slots) (h5 : (st.map fun v => v.category).sum ≤ 8) (hp : pc + 3 = pc2) (kk : ∀ h' : yH, PP h' → yW p l e R s m args below meth c nL D A (cells + mc) (slots + ms) Q pc2 lv (st) (h')) : yW p l e R s m args below meth c nL D A cells slots Q pc lv (v5 :: v4 :: v3 :: v2 :: v1 :: .ref a :: st) (h) := by
  refine yr_callI pc2 C [v1, v2, v3, v4, v5] hM d ht hy hv hl rfl h1 h2 h3 h4 h5 hp (fun r h' hq => ?_)
  obtain ⟨rfl, hq⟩ := hq
  exact kk h' hq
end Rows3
