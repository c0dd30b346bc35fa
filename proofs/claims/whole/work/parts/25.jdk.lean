/-! the JDK's own methods -/
def jmax (x y : Int32) : Int32 := if x < y then y else x
def jmin (x y : Int32) : Int32 := if y < x then y else x
def jfm (x y : Int32) : Int32 := if 0 ≤ x ^^^ y then x - x / y * y else if x - x / y * y = 0 then x - x / y * y else x - x / y * y + y
abbrev yQ (f : Nat → Option Nat) : (Nat → Int32) ⊕ (Nat → Int64) ⊕ (Nat → UInt32) ⊕ (Nat → UInt64) ⊕ (Nat → Option Nat) := .inr (.inr (.inr (.inr f)))
theorem va_up_self' {α : Type} (f : Nat → α) (k : Nat) (v : α) : va_up f k v k = v := by simp [va_up]
theorem va_up_ne' {α : Type} (f : Nat → α) {k j : Nat} (v : α) (h : j ≠ k) : va_up f k v j = f j := by simp [va_up, h]
theorem va_up_sw {α : Type} (f : Nat → α) {a b : Nat} (u v w : α) (h : b ≠ a) : va_up (va_up (va_up f a u) b v) a w = va_up (va_up f a w) b v := by
  funext j
  by_cases h1 : j = a
  · subst h1
    simp [va_up, Ne.symm h]
  · by_cases h2 : j = b
    · subst h2
      simp [va_up, h]
    · simp [va_up, h1, h2]
theorem yM_ofF {Z : (Nat → Prop) → State → Prop} {D : va_G} {dA : Nat → ClassId} (hZ : yZok D dA Z) {y : MethodName} {cc : ByteArray} {nL : Nat} {ret : Option FieldType} {k mc ms : Nat} {As : List Value} {h : yH} {Q : Option Value → yH → Prop} (hy : plainFor y = true) (hA : As.all (fun v => v.category == 1) = true) (hn : As.length ≤ nL)
    (body : ∀ (p : Program) (l : Launch) (e : Env) (s : State) (m : MethodId) (args : Array Value) (below : List Frame) (meth : Method) (c : Code) (A : Nat → Prop), yC Z D dA p s m args meth c cc nL y.cls A → meth.sig.returnType = ret → meth.name = y.name →
      yW p l e (yR k mc ms) s m args below meth c nL D A 0 0 (yF D A Q below args s mc ms) 0 (As.map some ++ List.replicate (nL - As.length) none) [] h) : yM Z D y cc nL ret k mc ms As h Q := by
  intro l sz
  refine va_MetF (cc := cc) (maxL := nL) (ret := ret) hy rfl ?_
  intro p e s m args below meth c s₁ B hml hv
  obtain ⟨rfl, hsz, hw, hz⟩ := hv
  subst hsz
  have hts := atoms_spec (ws := Cond.code y cc nL ret :: yTs) B.pre
  have C : yC Z D dA p s m As.toArray meth c cc nL y.cls (yA h s.heap.size) := ⟨B.exec, B.bytes, hml, findClass_of_methodNamed B.named, fun w hw => hts w (List.mem_cons_of_mem _ hw), hZ.1 _ _ hz, B.notSynchronized, fun q hq => Or.inr hq, hz, hZ⟩
  have hsl : ∀ (vs : List Value), vs.all (fun v => v.category == 1) = true → (lg_sl vs).length = vs.length := by
    intro vs
    induction vs with
    | nil => intro _; rfl
    | cons v vs ih =>
      intro hv
      simp only [List.all_cons, Bool.and_eq_true, beq_iff_eq] at hv
      have q := ih hv.2
      have e : lg_sl (v :: vs) = Slot.val v :: lg_sl vs := by simp [lg_sl, hv.1]
      rw [e, List.length_cons, q, List.length_cons]
  have hargs : ∀ (vs : List Value) (i : Nat), vs.all (fun v => v.category == 1) = true → ∀ (j : Nat) (v : Value), vs[j]? = some v → (i + j, v) ∈ lv_args i vs ∧ v.category = 1 := by
    intro vs
    induction vs with
    | nil => intro i _ j v hj; cases hj
    | cons u vs ih =>
      intro i hv j v hj
      simp only [List.all_cons, Bool.and_eq_true, beq_iff_eq] at hv
      cases j with
      | zero =>
        rw [List.getElem?_cons_zero] at hj
        cases hj
        exact ⟨by unfold lv_args; exact List.mem_cons_self, hv.1⟩
      | succ j =>
        rw [List.getElem?_cons_succ] at hj
        obtain ⟨q1, q2⟩ := ih (i + 1) hv.2 j v hj
        refine ⟨?_, q2⟩
        unfold lv_args
        rw [if_neg (by rw [hv.1]; decide)]
        have e : i + (j + 1) = i + 1 + j := by omega
        rw [e]
        exact List.mem_cons_of_mem _ q1
  have hl := lv_entry As (n := nL) (by rw [hsl As hA]; exact hn)
  rw [lg_entry_eq]
  refine body p l e s m As.toArray below meth c (yA h s.heap.size) C B.returns (name_of_methodNamed B.named B.method).1 s.heap [] _ ⟨_, hl, fun i v hi => ?_⟩ (yd_weak hw (fun a e he _ => Or.inl ⟨e, he⟩)) va_S.rf
  by_cases hi2 : i < (As.map some).length
  · rw [List.getElem?_append_left hi2, List.getElem?_map] at hi
    cases hx : As[i]? with
    | none => rw [hx] at hi; cases hi
    | some u =>
      rw [hx] at hi
      simp only [Option.map_some, Option.some.injEq] at hi
      subst hi
      have := hargs As 0 hA i u hx
      rwa [Nat.zero_add] at this
  · rw [List.getElem?_append_right (by omega)] at hi
    have := List.mem_of_getElem? hi
    simp at this

section JDK
variable {D : va_G} {dA : Nat → ClassId} {t0 mi : Nat}
set_option maxHeartbeats 4000000 in
set_option maxRecDepth 100000 in
theorem jc_max (x y : Int32) (h : yH)  : yM (yZ t0 mi D dA) D yJ9_max_7cf53 cJ9_max_7cf53 2 (some .int) 0 0 0 [.int x, .int y] h (fun r h' => r = some (.int (jmax x y)) ∧ h' = h) := by
  refine yM_ofF (yZ_ok t0 mi D dA) (by decide +kernel) rfl (Nat.le_of_ble_eq_true rfl) ?_
  intro p l e s m args below meth c A C hr hin
  show yW p l e (yR 0 0 0) s m args below meth c 2 D A 0 0 _ 0 [some (.int x), some (.int y)] [] h
  refine yr_iload_n 1 C dJ9_max_7cf53_0 rfl rfl ?_
  refine yr_iload_n 2 C dJ9_max_7cf53_1 rfl rfl ?_
  refine yr_icmp_lt 9 5 C dJ9_max_7cf53_2 (by decide) rfl (fun c2 => ?_) (fun c2 => ?_)
  · refine yr_iload_n 10 C dJ9_max_7cf53_9 rfl rfl ?_
    refine yr_iret C dJ9_max_7cf53_10 hr (Nat.le_of_ble_eq_true rfl) (Nat.le_of_ble_eq_true rfl) ?_
    exact ⟨by simp [jmax, c2], rfl⟩
  · refine yr_iload_n 6 C dJ9_max_7cf53_5 rfl rfl ?_
    refine yr_goto 10 C dJ9_max_7cf53_6 (by decide) ?_
    refine yr_iret C dJ9_max_7cf53_10 hr (Nat.le_of_ble_eq_true rfl) (Nat.le_of_ble_eq_true rfl) ?_
    exact ⟨by simp [jmax, c2], rfl⟩
set_option maxHeartbeats 4000000 in
set_option maxRecDepth 100000 in
theorem jc_min (x y : Int32) (h : yH)  : yM (yZ t0 mi D dA) D yJ9_min_7cf53 cJ9_min_7cf53 2 (some .int) 0 0 0 [.int x, .int y] h (fun r h' => r = some (.int (jmin x y)) ∧ h' = h) := by
  refine yM_ofF (yZ_ok t0 mi D dA) (by decide +kernel) rfl (Nat.le_of_ble_eq_true rfl) ?_
  intro p l e s m args below meth c A C hr hin
  show yW p l e (yR 0 0 0) s m args below meth c 2 D A 0 0 _ 0 [some (.int x), some (.int y)] [] h
  refine yr_iload_n 1 C dJ9_min_7cf53_0 rfl rfl ?_
  refine yr_iload_n 2 C dJ9_min_7cf53_1 rfl rfl ?_
  refine yr_icmp_gt 9 5 C dJ9_min_7cf53_2 (by decide) rfl (fun c2 => ?_) (fun c2 => ?_)
  · refine yr_iload_n 10 C dJ9_min_7cf53_9 rfl rfl ?_
    refine yr_iret C dJ9_min_7cf53_10 hr (Nat.le_of_ble_eq_true rfl) (Nat.le_of_ble_eq_true rfl) ?_
    exact ⟨by simp [jmin, c2], rfl⟩
  · refine yr_iload_n 6 C dJ9_min_7cf53_5 rfl rfl ?_
    refine yr_goto 10 C dJ9_min_7cf53_6 (by decide) ?_
    refine yr_iret C dJ9_min_7cf53_10 hr (Nat.le_of_ble_eq_true rfl) (Nat.le_of_ble_eq_true rfl) ?_
    exact ⟨by simp [jmin, c2], rfl⟩
set_option maxHeartbeats 4000000 in
set_option maxRecDepth 100000 in
theorem jc_fm (x y : Int32) (hy : ¬ y = 0) (h : yH)  : yM (yZ t0 mi D dA) D yJ9_floorMod_7cf53 cJ9_floorMod_7cf53 3 (some .int) 0 0 0 [.int x, .int y] h (fun r h' => r = some (.int (jfm x y)) ∧ h' = h) := by
  refine yM_ofF (yZ_ok t0 mi D dA) (by decide +kernel) rfl (Nat.le_of_ble_eq_true rfl) ?_
  intro p l e s m args below meth c A C hr hin
  show yW p l e (yR 0 0 0) s m args below meth c 3 D A 0 0 _ 0 [some (.int x), some (.int y), none] [] h
  refine yr_iload_n 1 C dJ9_floorMod_7cf53_0 rfl rfl ?_
  refine yr_iload_n 2 C dJ9_floorMod_7cf53_1 rfl rfl ?_
  refine yr_irem 3 C dJ9_floorMod_7cf53_2 ?_ rfl ?_
  · exact hy
  refine yr_istore2 4 C dJ9_floorMod_7cf53_3 (by decide) rfl ?_
  refine yr_iload_n 5 C dJ9_floorMod_7cf53_4 rfl rfl ?_
  refine yr_iload_n 6 C dJ9_floorMod_7cf53_5 rfl rfl ?_
  refine yr_ixor 7 C dJ9_floorMod_7cf53_6 rfl ?_
  refine yr_if_ge 18 10 C dJ9_floorMod_7cf53_7 (by decide) rfl (fun c7 => ?_) (fun c7 => ?_)
  · refine yr_iload_n 19 C dJ9_floorMod_7cf53_18 rfl rfl ?_
    refine yr_iret C dJ9_floorMod_7cf53_19 hr (Nat.le_of_ble_eq_true rfl) (Nat.le_of_ble_eq_true rfl) ?_
    refine ⟨?_, rfl⟩
    unfold jfm
    rw [if_pos c7]
  · refine yr_iload_n 11 C dJ9_floorMod_7cf53_10 rfl rfl ?_
    refine yr_if_eq 18 14 C dJ9_floorMod_7cf53_11 (by decide) rfl (fun c11 => ?_) (fun c11 => ?_)
    · refine yr_iload_n 19 C dJ9_floorMod_7cf53_18 rfl rfl ?_
      refine yr_iret C dJ9_floorMod_7cf53_19 hr (Nat.le_of_ble_eq_true rfl) (Nat.le_of_ble_eq_true rfl) ?_
      refine ⟨?_, rfl⟩
      unfold jfm
      rw [if_neg c7, if_pos c11]
    · refine yr_iload_n 15 C dJ9_floorMod_7cf53_14 rfl rfl ?_
      refine yr_iload_n 16 C dJ9_floorMod_7cf53_15 rfl rfl ?_
      refine yr_iadd 17 C dJ9_floorMod_7cf53_16 rfl ?_
      refine yr_iret C dJ9_floorMod_7cf53_17 hr (Nat.le_of_ble_eq_true rfl) (Nat.le_of_ble_eq_true rfl) ?_
      refine ⟨?_, rfl⟩
      unfold jfm
      rw [if_neg c7, if_neg c11]
set_option maxHeartbeats 4000000 in
set_option maxRecDepth 100000 in
theorem jc_chk3 (i n : Nat) (hi : i < n) (hn : n < 2 ^ 31) (h : yH)  : yM (yZ t0 mi D dA) D yJ3_checkIndex_8e157 cJ3_checkIndex_8e157 3 (some .int) 0 0 0 [.int (nI i), .int (nI n), .null] h (fun r h' => r = some (.int (nI i)) ∧ h' = h) := by
  refine yM_of (yZ_ok t0 mi D dA) (by decide) rfl (Nat.le_of_ble_eq_true rfl) ?_
  intro p l e s m args below meth c A C hr hin
  show yW p l e (yR 0 0 0) s m args below meth c 3 D A 0 0 _ 0 [some (.int (nI i)), some (.int (nI n)), some (.null)] [] h
  refine yr_iload_n 1 C dJ3_checkIndex_8e157_0 rfl rfl ?_
  refine yr_if_lt 9 4 C dJ3_checkIndex_8e157_1 (by decide) rfl (fun c1 => ?_) (fun c1 => ?_)
  · exact absurd c1 (nI_pos (by omega))
  refine yr_iload_n 5 C dJ3_checkIndex_8e157_4 rfl rfl ?_
  refine yr_iload_n 6 C dJ3_checkIndex_8e157_5 rfl rfl ?_
  refine yr_icmp_lt 16 9 C dJ3_checkIndex_8e157_6 (by decide) rfl (fun c6 => ?_) (fun c6 => ?_)
  rotate_left
  · exact absurd (nI_lt hi hn) c6
  refine yr_iload_n 17 C dJ3_checkIndex_8e157_16 rfl rfl ?_
  refine yr_iret C dJ3_checkIndex_8e157_17 hr (Nat.le_of_ble_eq_true rfl) (Nat.le_of_ble_eq_true rfl) ?_
  exact ⟨rfl, rfl⟩
set_option maxHeartbeats 4000000 in
set_option maxRecDepth 100000 in
theorem jc_chk (i n : Nat) (hi : i < n) (hn : n < 2 ^ 31) (h : yH)  : yM (yZ t0 mi D dA) D yJ15_checkIndex_7cf53 cJ15_checkIndex_7cf53 2 (some .int) 1 0 0 [.int (nI i), .int (nI n)] h (fun r h' => r = some (.int (nI i)) ∧ h' = h) := by
  refine yM_of (yZ_ok t0 mi D dA) (by decide) rfl (Nat.le_of_ble_eq_true rfl) ?_
  intro p l e s m args below meth c A C hr hin
  show yW p l e (yR 1 0 0) s m args below meth c 2 D A 0 0 _ 0 [some (.int (nI i)), some (.int (nI n))] [] h
  refine yr_iload_n 1 C dJ15_checkIndex_7cf53_0 rfl rfl ?_
  refine yr_iload_n 2 C dJ15_checkIndex_7cf53_1 rfl rfl ?_
  refine yr_null 3 C dJ15_checkIndex_7cf53_2 rfl ?_
  refine yr_S3v 6 C (jc_chk3 _ _ hi hn _) dJ15_checkIndex_7cf53_3 mt_J3_checkIndex_8e157 ms_J3_checkIndex_8e157 ml_J15_105 (Nat.le_of_ble_eq_true rfl) (Nat.le_of_ble_eq_true rfl) (Nat.le_of_ble_eq_true rfl) (Nat.le_of_ble_eq_true rfl) (Nat.le_of_ble_eq_true rfl) rfl (fun h e => ?_)
  subst e
  refine yr_iret C dJ15_checkIndex_7cf53_6 hr (Nat.le_of_ble_eq_true rfl) (Nat.le_of_ble_eq_true rfl) ?_
  exact ⟨rfl, rfl⟩
set_option maxHeartbeats 4000000 in
set_option maxRecDepth 100000 in
theorem jc_size (la ea : Nat) (mc k : Int32) (h : yH) (ha : h la = some (.inr (0, [.int mc, .ref ea, .int k]))) : yM (yZ t0 mi D dA) D yJx4a65c_size_8abf5 cJx4a65c_size_8abf5 1 (some .int) 0 0 0 [.ref la] h (fun r h' => r = some (.int k) ∧ h' = h) := by
  refine yM_of (yZ_ok t0 mi D dA) (by decide) rfl (Nat.le_of_ble_eq_true rfl) ?_
  intro p l e s m args below meth c A C hr hin
  show yW p l e (yR 0 0 0) s m args below meth c 1 D A 0 0 _ 0 [some (.ref la)] [] h
  refine yr_aload_n 1 C dJx4a65c_size_8abf5_0 rfl rfl rfl ?_
  refine yr_get 4 C dJx4a65c_size_8abf5_1 fl_Jx4a65c_48 ha rfl rfl ?_
  refine yr_iret C dJx4a65c_size_8abf5_4 hr (Nat.le_of_ble_eq_true rfl) (Nat.le_of_ble_eq_true rfl) ?_
  exact ⟨rfl, rfl⟩
set_option maxHeartbeats 4000000 in
set_option maxRecDepth 100000 in
theorem jc_elem (la ea i cap : Nat) (mc k : Int32) (f : Nat → Option Nat) (hi : i < cap) (hc : cap < 2 ^ 20) (h : yH) (ha : h la = some (.inr (0, [.int mc, .ref ea, .int k]))) (he : h ea = some (.inl (dA 5, cap, yQ f))) : yM (yZ t0 mi D dA) D yJx4a65c_elementData_915e3 cJx4a65c_elementData_915e3 2 (some (.object "java/lang/Object")) 0 0 0 [.ref la, .int (nI i)] h (fun r h' => r = some (va_rf (f i)) ∧ h' = h) := by
  refine yM_of (yZ_ok t0 mi D dA) (by decide) rfl (Nat.le_of_ble_eq_true rfl) ?_
  intro p l e s m args below meth c A C hr hin
  show yW p l e (yR 0 0 0) s m args below meth c 2 D A 0 0 _ 0 [some (.ref la), some (.int (nI i))] [] h
  refine yr_aload_n 1 C dJx4a65c_elementData_915e3_0 rfl rfl rfl ?_
  refine yr_get 4 C dJx4a65c_elementData_915e3_1 fl_Jx4a65c_9 ha rfl rfl ?_
  refine yr_iload_n 5 C dJx4a65c_elementData_915e3_4 rfl rfl ?_
  refine yr_aald 6 5 C dJx4a65c_elementData_915e3_5 rfl he hi (by omega) rfl ?_
  refine yr_aret C dJx4a65c_elementData_915e3_6 hr (Or.inl ⟨_, rfl⟩) (yd_isref_rf _) (Nat.le_of_ble_eq_true rfl) (Nat.le_of_ble_eq_true rfl) ?_
  exact ⟨rfl, rfl⟩
set_option maxHeartbeats 4000000 in
set_option maxRecDepth 100000 in
theorem jc_get (la ea i n cap : Nat) (mc : Int32) (f : Nat → Option Nat) (hi : i < n) (hnc : n ≤ cap) (hc : cap < 2 ^ 20) (h : yH) (ha : h la = some (.inr (0, [.int mc, .ref ea, .int (nI n)]))) (he : h ea = some (.inl (dA 5, cap, yQ f))) : yM (yZ t0 mi D dA) D yJx4a65c_get_915e3 cJx4a65c_get_915e3 2 (some (.object "java/lang/Object")) 2 0 0 [.ref la, .int (nI i)] h (fun r h' => r = some (va_rf (f i)) ∧ h' = h) := by
  refine yM_of (yZ_ok t0 mi D dA) (by decide) rfl (Nat.le_of_ble_eq_true rfl) ?_
  intro p l e s m args below meth c A C hr hin
  show yW p l e (yR 2 0 0) s m args below meth c 2 D A 0 0 _ 0 [some (.ref la), some (.int (nI i))] [] h
  have hn : n < 2 ^ 31 := by omega
  refine yr_iload_n 1 C dJx4a65c_get_915e3_0 rfl rfl ?_
  refine yr_aload_n 2 C dJx4a65c_get_915e3_1 rfl rfl rfl ?_
  refine yr_get 5 C dJx4a65c_get_915e3_2 fl_Jx4a65c_48 ha rfl rfl ?_
  refine yr_S2v 8 C (jc_chk _ _ hi hn _) dJx4a65c_get_915e3_5 mt_J15_checkIndex_7cf53 ms_J15_checkIndex_7cf53 ml_Jx4a65c_118 (Nat.le_of_ble_eq_true rfl) (Nat.le_of_ble_eq_true rfl) (Nat.le_of_ble_eq_true rfl) (Nat.le_of_ble_eq_true rfl) (Nat.le_of_ble_eq_true rfl) rfl (fun h e => ?_)
  subst e
  refine yr_pop 9 C dJx4a65c_get_915e3_8 rfl rfl ?_
  refine yr_aload_n 10 C dJx4a65c_get_915e3_9 rfl rfl rfl ?_
  refine yr_iload_n 11 C dJx4a65c_get_915e3_10 rfl rfl ?_
  refine yr_V1v 14 C (jc_elem _ _ _ _ _ _ _ (by omega) hc _ ha he) dJx4a65c_get_915e3_11 mt_Jx4a65c_elementData_915e3 mv_Jx4a65c_elementData_915e3 ml_Jx4a65c_123 ha rfl (Nat.le_of_ble_eq_true rfl) (Nat.le_of_ble_eq_true rfl) (Nat.le_of_ble_eq_true rfl) (Nat.le_of_ble_eq_true rfl) (Nat.le_of_ble_eq_true rfl) rfl (fun h e => ?_)
  subst e
  refine yr_aret C dJx4a65c_get_915e3_14 hr (Or.inl ⟨_, rfl⟩) (yd_isref_rf _) (Nat.le_of_ble_eq_true rfl) (Nat.le_of_ble_eq_true rfl) ?_
  exact ⟨rfl, rfl⟩
set_option maxHeartbeats 4000000 in
set_option maxRecDepth 100000 in
theorem jc_add3 (la ea v n cap ci : Nat) (mc : Int32) (f : Nat → Option Nat) (vs : List Value) (r : vw_C) (hn : n < cap) (hc : cap < 2 ^ 20) (h : yH) (ha : h la = some (.inr (0, [.int mc, .ref ea, .int (nI n)]))) (he : h ea = some (.inl (dA 5, cap, yQ f))) (hv : h v = some (.inr (ci, vs))) (hci : vwCl[ci]? = some r) (hca : ∀ (A : Nat → Prop) (U : State), yZ t0 mi D dA A U → va_Nw (.castable r.1 "java/lang/Object") U) : yM (yZ t0 mi D dA) D yJx4a65c_add_72be8 cJx4a65c_add_72be8 4 none 5 1 30 [.ref la, .ref v, .ref ea, .int (nI n)] h (fun r h' => r = none ∧ h' = va_up (va_up h la (some (.inr (0, [.int mc, .ref ea, .int (nI (n + 1))])))) ea (some (.inl (dA 5, cap, yQ (va_up f n (some v)))))) := by
  refine yM_of (yZ_ok t0 mi D dA) (by decide) rfl (Nat.le_of_ble_eq_true rfl) ?_
  intro p l e s m args below meth c A C hr hin
  show yW p l e (yR 5 1 30) s m args below meth c 4 D A 0 0 _ 0 [some (.ref la), some (.ref v), some (.ref ea), some (.int (nI n))] [] h
  refine yr_iload_n 1 C dJx4a65c_add_72be8_0 rfl rfl ?_
  refine yr_aload_n 2 C dJx4a65c_add_72be8_1 rfl rfl rfl ?_
  refine yr_alen 3 5 C (nI cap) dJx4a65c_add_72be8_2 he rfl rfl rfl ?_
  refine yr_icmp_ne 11 6 C dJx4a65c_add_72be8_3 (by decide) rfl (fun c3 => ?_) (fun c3 => ?_)
  rotate_left
  · exact absurd ((nI_eq (by omega) (by omega)).mp c3) (by omega)
  refine yr_aload_n 12 C dJx4a65c_add_72be8_11 rfl rfl rfl ?_
  refine yr_iload_n 13 C dJx4a65c_add_72be8_12 rfl rfl ?_
  refine yr_aload_n 14 C dJx4a65c_add_72be8_13 rfl rfl rfl ?_
  refine yr_aastO 15 5 C dJx4a65c_add_72be8_14 rfl he hv hci (Or.inl (hca _ _ C.2.2.2.2.2.2.2.2.1)) hn (by omega) rfl ?_
  have hne : ea ≠ la := fun z => by rw [z, ha] at he; cases he
  refine yr_aload_n 16 C dJx4a65c_add_72be8_15 rfl rfl rfl ?_
  refine yr_iload_n 17 C dJx4a65c_add_72be8_16 rfl rfl ?_
  refine yr_iconst 18 C (1) dJx4a65c_add_72be8_17 rfl rfl ?_
  refine yr_iadd 19 C dJx4a65c_add_72be8_18 rfl ?_
  rw [nI_1]
  refine yr_put 22 C dJx4a65c_add_72be8_19 fp_Jx4a65c_48 ((va_up_ne' h _ (Ne.symm hne)).trans ha) (Nat.le_of_ble_eq_true rfl) rfl rfl rfl ?_
  refine yr_vret C dJx4a65c_add_72be8_22 hr (Nat.le_of_ble_eq_true rfl) (Nat.le_of_ble_eq_true rfl) ?_
  refine ⟨rfl, ?_⟩
  funext j
  by_cases h1 : j = la
  · subst h1
    simp [va_up, Ne.symm hne]
  · by_cases h2 : j = ea
    · subst h2
      simp [va_up, hne]
    · simp [va_up, h1, h2]
end JDK
