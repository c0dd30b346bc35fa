theorem IW_h {h0 h : yH} {a ci q : Nat} {L : List Value} {E : List (Nat × va_E)} {e : va_E} (hI : IW h0 a ci L ((q, e) :: E) h) : h q = some e := (hI.2.2.1 (q, e) List.mem_cons_self).2.2
theorem IW_set1 {h0 h : yH} {a ci q : Nat} {L : List Value} {E : List (Nat × va_E)} {e e' : va_E} (hI : IW h0 a ci L ((q, e) :: E) h) : IW h0 a ci L ((q, e') :: E) (va_up h q (some e')) := by
  obtain ⟨a1, a2, a3, a4⟩ := hI
  obtain ⟨b1, b2, b3⟩ := a3 (q, e) List.mem_cons_self
  obtain ⟨p1, p2⟩ := List.pairwise_cons.mp a4
  refine ⟨fun x u ne y => ?_, by rw [va_up_ne' _ _ (Ne.symm b1)]; exact a2, fun x hx => ?_, List.Pairwise.cons (fun y hy => p1 y hy) p2⟩
  · rw [va_up_ne' _ _ (fun z => by rw [z, b2] at y; cases y)]
    exact a1 x u ne y
  · rcases List.mem_cons.mp hx with rfl | hx
    · exact ⟨b1, b2, va_up_self' _ _ _⟩
    · obtain ⟨c1, c2, c3⟩ := a3 x (List.mem_cons_of_mem _ hx)
      exact ⟨c1, c2, by rw [va_up_ne' _ _ (Ne.symm (p1 x hx))]; exact c3⟩
theorem IW_call {h0 h h' : yH} {a ci q ci' : Nat} {L L' : List Value} {E E' : List (Nat × va_E)} {e : va_E} (hI : IW h0 a ci L ((q, e) :: E) h) (hJ : IW h q ci' L' E' h') : IW h0 a ci L (E' ++ (q, .inr (ci', L')) :: E) h' := by
  obtain ⟨a1, a2, a3, a4⟩ := hI
  obtain ⟨j1, j2, j3, j4⟩ := hJ
  obtain ⟨b1, b2, b3⟩ := a3 (q, e) List.mem_cons_self
  obtain ⟨p1, p2⟩ := List.pairwise_cons.mp a4
  have off : ∀ x u, x ≠ a → h0 x = some u → h x = some u := a1
  have h0n : ∀ x, x ≠ a → h x = none → h0 x = none := fun x ne y => by
    cases z : h0 x with
    | none => rfl
    | some u =>
      rw [a1 x u ne z] at y
      cases y
  have ha : h' a = some (.inr (ci, L)) := j1 a _ (Ne.symm b1) a2
  refine ⟨fun x u ne y => j1 x u (fun z => by rw [z, b2] at y; cases y) (a1 x u ne y), ha, fun x hx => ?_, ?_⟩
  · rcases List.mem_append.mp hx with hx | hx
    · obtain ⟨c1, c2, c3⟩ := j3 x hx
      have xa : x.1 ≠ a := fun z => by rw [z, a2] at c2; cases c2
      exact ⟨xa, h0n _ xa c2, c3⟩
    · rcases List.mem_cons.mp hx with rfl | hx
      · exact ⟨b1, b2, j2⟩
      · obtain ⟨c1, c2, c3⟩ := a3 x (List.mem_cons_of_mem _ hx)
        exact ⟨c1, c2, j1 x.1 _ (Ne.symm (p1 x hx)) c3⟩
  · refine List.pairwise_append.mpr ⟨j4, List.Pairwise.cons (fun y hy => p1 y hy) p2, fun x hx y hy z => ?_⟩
    have c2 := (j3 x hx).2.1
    rcases List.mem_cons.mp hy with rfl | hy
    · rw [z, b3] at c2
      cases c2
    · rw [z, (a3 y (List.mem_cons_of_mem _ hy)).2.2] at c2
      cases c2
def Bi (a q0 q1 q2 q3 q4 q13 q14 q15 q16 t0 : Nat) : Nat → Nat → Nat
  | 0, _ => a
  | 1, 0 => q0
  | 1, 1 => q1
  | 1, 2 => q2
  | 1, 3 => q3
  | 1, _ => q4
  | 2, _ => t0
  | 13, _ => q13
  | 14, _ => q14
  | 15, _ => q15
  | 16, _ => q16
  | _, _ => 0
/-- the things of a new keeper -/
theorem xV_0 {S : yS} {k i : Nat} (v : xV S (fun _ => 0) (fun _ => 0) k i) : (k = 0 ∧ i = 0) ∨ (k = 1 ∧ i = 0) ∨ (k = 1 ∧ i = 1) ∨ (k = 1 ∧ i = 2) ∨ (k = 1 ∧ i = 3) ∨ (k = 1 ∧ i = 4) ∨ (k = 13 ∧ i = 0) ∨ (k = 14 ∧ i = 0) ∨ (k = 15 ∧ i = 0) ∨ (k = 16 ∧ i = 0) := by
  have hk := xV_lt v
  revert v
  refine c17 (P := fun k => xV S (fun _ => 0) (fun _ => 0) k i → (k = 0 ∧ i = 0) ∨ (k = 1 ∧ i = 0) ∨ (k = 1 ∧ i = 1) ∨ (k = 1 ∧ i = 2) ∨ (k = 1 ∧ i = 3) ∨ (k = 1 ∧ i = 4) ∨ (k = 13 ∧ i = 0) ∨ (k = 14 ∧ i = 0) ∨ (k = 15 ∧ i = 0) ∨ (k = 16 ∧ i = 0)) ?_ ?_ ?_ ?_ ?_ ?_ ?_ ?_ ?_ ?_ ?_ ?_ ?_ ?_ ?_ ?_ ?_ k hk
  all_goals intro q
  all_goals simp only [xV] at q
  all_goals omega
section X28
variable {D : va_G} {dA : Nat → ClassId} {t0 mi : Nat} {S : yS} {lf mc : Nat → Int32} {cap : Nat → Nat} {B : Nat → Nat → Nat} {N : Nat → Nat}
set_option maxHeartbeats 4000000 in
set_option maxRecDepth 100000 in
theorem xi_find (a : Nat)  (h0 : yH) (ha : h0 a = some (.inr (4, [.null, .int 0, .int 0]))) : yM (yZ t0 mi D dA) D yX3_init cX3_init 1 none 1 1 5 [.ref a] h0 (fun r h' => r = none ∧ ∃ q14, IW h0 a 4 [.ref q14, .int 0, .int (-5)] [(q14, .inl (dA 0, 5, .inl (fun _ => 0)))] h') := by
  suffices H : ∀ h : yH, IW h0 a 4 [.null, .int 0, .int 0] [] h → yM (yZ t0 mi D dA) D yX3_init cX3_init 1 none 1 1 5 [.ref a] h (fun r h' => r = none ∧ ∃ q14, IW h0 a 4 [.ref q14, .int 0, .int (-5)] [(q14, .inl (dA 0, 5, .inl (fun _ => 0)))] h') from H h0 (IW_0 ha)
  intro h hI
  refine yM_of (yZ_ok t0 mi D dA) (by decide) rfl (Nat.le_of_ble_eq_true rfl) ?_
  intro p l e s m args below meth c A C hr hin
  show yW p l e (yR 1 1 5) s m args below meth c 1 D A 0 0 _ 0 [some (.ref a)] [] h
  refine yr_aload_n 1 C dX3_init_0 rfl rfl rfl ?_
  refine yr_objInit 4 C dX3_init_1 ml_X3_3 oi_i oi_c (Nat.le_of_ble_eq_true rfl) (Nat.le_of_ble_eq_true rfl) rfl ?_
  refine yr_aload_n 5 C dX3_init_4 rfl rfl rfl ?_
  refine yr_iconst 6 C (5) dX3_init_5 rfl rfl ?_
  refine yr_newaI 8 C 5 dX3_init_6 ac_int (by decide) (by decide) (by decide) (Nat.le_of_ble_eq_true rfl) (Nat.le_of_ble_eq_true rfl) rfl (fun q14 hq14 => ?_)
  have hI := IW_new (e := .inl (dA 0, 5, .inl (fun _ => 0))) hI hq14
  generalize va_up h q14 (some (.inl (dA 0, 5, .inl (fun _ => 0)))) = h at hI ⊢
  refine xx_putF 11 C hin dX3_init_8 fp_X3_9 hI.2.1 (Nat.le_of_ble_eq_true rfl) rfl rfl (IW_put hI) rfl (fun h hI => ?_)
  replace hI : IW h0 a 4 [.ref q14, .int 0, .int 0] _ h := hI
  refine yr_aload_n 12 C dX3_init_11 rfl rfl rfl ?_
  refine yr_iconst 13 C (0) dX3_init_12 rfl rfl ?_
  refine xx_put 16 C dX3_init_13 fp_X3_15 hI.2.1 (Nat.le_of_ble_eq_true rfl) rfl rfl (IW_put hI) rfl (fun h hI => ?_)
  replace hI : IW h0 a 4 [.ref q14, .int (0), .int 0] _ h := hI
  refine yr_aload_n 17 C dX3_init_16 rfl rfl rfl ?_
  refine yr_bipush 19 C (-5) dX3_init_17 rfl rfl ?_
  refine xx_put 22 C dX3_init_19 fp_X3_19 hI.2.1 (Nat.le_of_ble_eq_true rfl) rfl rfl (IW_put hI) rfl (fun h hI => ?_)
  replace hI : IW h0 a 4 [.ref q14, .int (0), .int (-5)] _ h := hI
  refine yr_vret C dX3_init_22 hr (Nat.le_of_ble_eq_true rfl) (Nat.le_of_ble_eq_true rfl) ?_
  exact ⟨rfl, q14, hI⟩
set_option maxHeartbeats 4000000 in
set_option maxRecDepth 100000 in
theorem xi_faults (a : Nat)  (h0 : yH) (ha : h0 a = some (.inr (3, [.int 0, .int 0, .int 0, .int 0, .int 0]))) : yM (yZ t0 mi D dA) D yX2_init cX2_init 1 none 1 0 0 [.ref a] h0 (fun r h' => r = none ∧ IW h0 a 3 [.int 0, .int 0, .int (-5), .int 0, .int 0] [] h') := by
  suffices H : ∀ h : yH, IW h0 a 3 [.int 0, .int 0, .int 0, .int 0, .int 0] [] h → yM (yZ t0 mi D dA) D yX2_init cX2_init 1 none 1 0 0 [.ref a] h (fun r h' => r = none ∧ IW h0 a 3 [.int 0, .int 0, .int (-5), .int 0, .int 0] [] h') from H h0 (IW_0 ha)
  intro h hI
  refine yM_of (yZ_ok t0 mi D dA) (by decide) rfl (Nat.le_of_ble_eq_true rfl) ?_
  intro p l e s m args below meth c A C hr hin
  show yW p l e (yR 1 0 0) s m args below meth c 1 D A 0 0 _ 0 [some (.ref a)] [] h
  refine yr_aload_n 1 C dX2_init_0 rfl rfl rfl ?_
  refine yr_objInit 4 C dX2_init_1 ml_X2_3 oi_i oi_c (Nat.le_of_ble_eq_true rfl) (Nat.le_of_ble_eq_true rfl) rfl ?_
  refine yr_aload_n 5 C dX2_init_4 rfl rfl rfl ?_
  refine yr_iconst 6 C (0) dX2_init_5 rfl rfl ?_
  refine xx_put 9 C dX2_init_6 fp_X2_9 hI.2.1 (Nat.le_of_ble_eq_true rfl) rfl rfl (IW_put hI) rfl (fun h hI => ?_)
  replace hI : IW h0 a 3 [.int (0), .int 0, .int 0, .int 0, .int 0] _ h := hI
  refine yr_aload_n 10 C dX2_init_9 rfl rfl rfl ?_
  refine yr_iconst 11 C (0) dX2_init_10 rfl rfl ?_
  refine xx_put 14 C dX2_init_11 fp_X2_15 hI.2.1 (Nat.le_of_ble_eq_true rfl) rfl rfl (IW_put hI) rfl (fun h hI => ?_)
  replace hI : IW h0 a 3 [.int (0), .int (0), .int 0, .int 0, .int 0] _ h := hI
  refine yr_aload_n 15 C dX2_init_14 rfl rfl rfl ?_
  refine yr_bipush 17 C (-5) dX2_init_15 rfl rfl ?_
  refine xx_put 20 C dX2_init_17 fp_X2_18 hI.2.1 (Nat.le_of_ble_eq_true rfl) rfl rfl (IW_put hI) rfl (fun h hI => ?_)
  replace hI : IW h0 a 3 [.int (0), .int (0), .int (-5), .int 0, .int 0] _ h := hI
  refine yr_aload_n 21 C dX2_init_20 rfl rfl rfl ?_
  refine yr_iconst 22 C (0) dX2_init_21 rfl rfl ?_
  refine xx_put 25 C dX2_init_22 fp_X2_21 hI.2.1 (Nat.le_of_ble_eq_true rfl) rfl rfl (IW_put hI) rfl (fun h hI => ?_)
  replace hI : IW h0 a 3 [.int (0), .int (0), .int (-5), .int (0), .int 0] _ h := hI
  refine yr_aload_n 26 C dX2_init_25 rfl rfl rfl ?_
  refine yr_iconst 27 C (0) dX2_init_26 rfl rfl ?_
  refine xx_put 30 C dX2_init_27 fp_X2_24 hI.2.1 (Nat.le_of_ble_eq_true rfl) rfl rfl (IW_put hI) rfl (fun h hI => ?_)
  replace hI : IW h0 a 3 [.int (0), .int (0), .int (-5), .int (0), .int (0)] _ h := hI
  refine yr_vret C dX2_init_30 hr (Nat.le_of_ble_eq_true rfl) (Nat.le_of_ble_eq_true rfl) ?_
  exact ⟨rfl, hI⟩
set_option maxHeartbeats 4000000 in
set_option maxRecDepth 100000 in
theorem xi_bodies (a : Nat)  (h0 : yH) (ha : h0 a = some (.inr (1, [.int 0]))) : yM (yZ t0 mi D dA) D yX0_init cX0_init 1 none 1 0 0 [.ref a] h0 (fun r h' => r = none ∧ IW h0 a 1 [.int 0] [] h') := by
  suffices H : ∀ h : yH, IW h0 a 1 [.int 0] [] h → yM (yZ t0 mi D dA) D yX0_init cX0_init 1 none 1 0 0 [.ref a] h (fun r h' => r = none ∧ IW h0 a 1 [.int 0] [] h') from H h0 (IW_0 ha)
  intro h hI
  refine yM_of (yZ_ok t0 mi D dA) (by decide) rfl (Nat.le_of_ble_eq_true rfl) ?_
  intro p l e s m args below meth c A C hr hin
  show yW p l e (yR 1 0 0) s m args below meth c 1 D A 0 0 _ 0 [some (.ref a)] [] h
  refine yr_aload_n 1 C dX0_init_0 rfl rfl rfl ?_
  refine yr_objInit 4 C dX0_init_1 ml_X0_3 oi_i oi_c (Nat.le_of_ble_eq_true rfl) (Nat.le_of_ble_eq_true rfl) rfl ?_
  refine yr_aload_n 5 C dX0_init_4 rfl rfl rfl ?_
  refine yr_iconst 6 C (0) dX0_init_5 rfl rfl ?_
  refine xx_put 9 C dX0_init_6 fp_X0_9 hI.2.1 (Nat.le_of_ble_eq_true rfl) rfl rfl (IW_put hI) rfl (fun h hI => ?_)
  replace hI : IW h0 a 1 [.int (0)] _ h := hI
  refine yr_vret C dX0_init_9 hr (Nat.le_of_ble_eq_true rfl) (Nat.le_of_ble_eq_true rfl) ?_
  exact ⟨rfl, hI⟩
set_option maxHeartbeats 4000000 in
set_option maxRecDepth 100000 in
theorem xi_keeper (a : Nat)  (h0 : yH) (ha : h0 a = some (.inr (9, [.null, .null, .null, .null, .null, .null, .null, .null, .int 0, .int 0, .null, .int 0, .int 0, .int 0, .null, .int 0]))) : yM (yZ t0 mi D dA) D yX8_init cX8_init 1 none 4 9 29 [.ref a] h0 (fun r h' => r = none ∧ XI dA t0 mS0 a 0 h') := by
  suffices H : ∀ h : yH, IW h0 a 9 [.null, .null, .null, .null, .null, .null, .null, .null, .int 0, .int 0, .null, .int 0, .int 0, .int 0, .null, .int 0] [] h → yM (yZ t0 mi D dA) D yX8_init cX8_init 1 none 4 9 29 [.ref a] h (fun r h' => r = none ∧ XI dA t0 mS0 a 0 h') from H h0 (IW_0 ha)
  intro h hI
  refine yM_of (yZ_ok t0 mi D dA) (by decide) rfl (Nat.le_of_ble_eq_true rfl) ?_
  intro p l e s m args below meth c A C hr hin
  show yW p l e (yR 4 9 29) s m args below meth c 1 D A 0 0 _ 0 [some (.ref a)] [] h
  refine yr_aload_n 1 C dX8_init_0 rfl rfl rfl ?_
  refine yr_objInit 4 C dX8_init_1 ml_X8_1 oi_i oi_c (Nat.le_of_ble_eq_true rfl) (Nat.le_of_ble_eq_true rfl) rfl ?_
  refine yr_aload_n 5 C dX8_init_4 rfl rfl rfl ?_
  refine yr_new 8 C dX8_init_5 nw_7 (Nat.le_of_ble_eq_true rfl) (Nat.le_of_ble_eq_true rfl) rfl (fun q0 hq0 => ?_)
  have hI := IW_new (e := (.inr (0, [.int 0, .null, .int 0]))) hI hq0
  generalize va_up h q0 (some (.inr (0, [.int 0, .null, .int 0]))) = h at hI ⊢
  refine yr_dup 9 C dX8_init_8 rfl rfl ?_
  refine yr_I0u 12 C (jc_init q0 _ _ _ _ (IW_h hI)) dX8_init_9 mt_Jx4a65c_init_da8c8 rfl mi_Jx4a65c_init_da8c8 ml_X8_9 (Nat.le_of_ble_eq_true rfl) (Nat.le_of_ble_eq_true rfl) (Nat.le_of_ble_eq_true rfl) (Nat.le_of_ble_eq_true rfl) (Nat.le_of_ble_eq_true rfl) rfl (fun h9 e9 => ?_)
  subst e9
  replace hI := IW_set1 (e' := .inr (0, [.int 0, .ref t0, .int 0])) hI
  generalize va_up h q0 (some (.inr (0, [.int 0, .ref t0, .int 0]))) = h at hI ⊢
  refine xx_putF 15 C hin dX8_init_12 fp_X8_10 hI.2.1 (Nat.le_of_ble_eq_true rfl) rfl rfl (IW_put hI) rfl (fun h hI => ?_)
  replace hI : IW h0 a 9 [.ref q0, .null, .null, .null, .null, .null, .null, .null, .int 0, .int 0, .null, .int 0, .int 0, .int 0, .null, .int 0] _ h := hI
  refine yr_aload_n 16 C dX8_init_15 rfl rfl rfl ?_
  refine yr_new 19 C dX8_init_16 nw_7 (Nat.le_of_ble_eq_true rfl) (Nat.le_of_ble_eq_true rfl) rfl (fun q1 hq1 => ?_)
  have hI := IW_new (e := (.inr (0, [.int 0, .null, .int 0]))) hI hq1
  generalize va_up h q1 (some (.inr (0, [.int 0, .null, .int 0]))) = h at hI ⊢
  refine yr_dup 20 C dX8_init_19 rfl rfl ?_
  refine yr_I0u 23 C (jc_init q1 _ _ _ _ (IW_h hI)) dX8_init_20 mt_Jx4a65c_init_da8c8 rfl mi_Jx4a65c_init_da8c8 ml_X8_9 (Nat.le_of_ble_eq_true rfl) (Nat.le_of_ble_eq_true rfl) (Nat.le_of_ble_eq_true rfl) (Nat.le_of_ble_eq_true rfl) (Nat.le_of_ble_eq_true rfl) rfl (fun h9 e9 => ?_)
  subst e9
  replace hI := IW_set1 (e' := .inr (0, [.int 0, .ref t0, .int 0])) hI
  generalize va_up h q1 (some (.inr (0, [.int 0, .ref t0, .int 0]))) = h at hI ⊢
  refine xx_putF 26 C hin dX8_init_23 fp_X8_16 hI.2.1 (Nat.le_of_ble_eq_true rfl) rfl rfl (IW_put hI) rfl (fun h hI => ?_)
  replace hI : IW h0 a 9 [.ref q0, .ref q1, .null, .null, .null, .null, .null, .null, .int 0, .int 0, .null, .int 0, .int 0, .int 0, .null, .int 0] _ h := hI
  refine yr_aload_n 27 C dX8_init_26 rfl rfl rfl ?_
  refine yr_new 30 C dX8_init_27 nw_7 (Nat.le_of_ble_eq_true rfl) (Nat.le_of_ble_eq_true rfl) rfl (fun q2 hq2 => ?_)
  have hI := IW_new (e := (.inr (0, [.int 0, .null, .int 0]))) hI hq2
  generalize va_up h q2 (some (.inr (0, [.int 0, .null, .int 0]))) = h at hI ⊢
  refine yr_dup 31 C dX8_init_30 rfl rfl ?_
  refine yr_I0u 34 C (jc_init q2 _ _ _ _ (IW_h hI)) dX8_init_31 mt_Jx4a65c_init_da8c8 rfl mi_Jx4a65c_init_da8c8 ml_X8_9 (Nat.le_of_ble_eq_true rfl) (Nat.le_of_ble_eq_true rfl) (Nat.le_of_ble_eq_true rfl) (Nat.le_of_ble_eq_true rfl) (Nat.le_of_ble_eq_true rfl) rfl (fun h9 e9 => ?_)
  subst e9
  replace hI := IW_set1 (e' := .inr (0, [.int 0, .ref t0, .int 0])) hI
  generalize va_up h q2 (some (.inr (0, [.int 0, .ref t0, .int 0]))) = h at hI ⊢
  refine xx_putF 37 C hin dX8_init_34 fp_X8_19 hI.2.1 (Nat.le_of_ble_eq_true rfl) rfl rfl (IW_put hI) rfl (fun h hI => ?_)
  replace hI : IW h0 a 9 [.ref q0, .ref q1, .ref q2, .null, .null, .null, .null, .null, .int 0, .int 0, .null, .int 0, .int 0, .int 0, .null, .int 0] _ h := hI
  refine yr_aload_n 38 C dX8_init_37 rfl rfl rfl ?_
  refine yr_new 41 C dX8_init_38 nw_7 (Nat.le_of_ble_eq_true rfl) (Nat.le_of_ble_eq_true rfl) rfl (fun q3 hq3 => ?_)
  have hI := IW_new (e := (.inr (0, [.int 0, .null, .int 0]))) hI hq3
  generalize va_up h q3 (some (.inr (0, [.int 0, .null, .int 0]))) = h at hI ⊢
  refine yr_dup 42 C dX8_init_41 rfl rfl ?_
  refine yr_I0u 45 C (jc_init q3 _ _ _ _ (IW_h hI)) dX8_init_42 mt_Jx4a65c_init_da8c8 rfl mi_Jx4a65c_init_da8c8 ml_X8_9 (Nat.le_of_ble_eq_true rfl) (Nat.le_of_ble_eq_true rfl) (Nat.le_of_ble_eq_true rfl) (Nat.le_of_ble_eq_true rfl) (Nat.le_of_ble_eq_true rfl) rfl (fun h9 e9 => ?_)
  subst e9
  replace hI := IW_set1 (e' := .inr (0, [.int 0, .ref t0, .int 0])) hI
  generalize va_up h q3 (some (.inr (0, [.int 0, .ref t0, .int 0]))) = h at hI ⊢
  refine xx_putF 48 C hin dX8_init_45 fp_X8_22 hI.2.1 (Nat.le_of_ble_eq_true rfl) rfl rfl (IW_put hI) rfl (fun h hI => ?_)
  replace hI : IW h0 a 9 [.ref q0, .ref q1, .ref q2, .ref q3, .null, .null, .null, .null, .int 0, .int 0, .null, .int 0, .int 0, .int 0, .null, .int 0] _ h := hI
  refine yr_aload_n 49 C dX8_init_48 rfl rfl rfl ?_
  refine yr_new 52 C dX8_init_49 nw_7 (Nat.le_of_ble_eq_true rfl) (Nat.le_of_ble_eq_true rfl) rfl (fun q4 hq4 => ?_)
  have hI := IW_new (e := (.inr (0, [.int 0, .null, .int 0]))) hI hq4
  generalize va_up h q4 (some (.inr (0, [.int 0, .null, .int 0]))) = h at hI ⊢
  refine yr_dup 53 C dX8_init_52 rfl rfl ?_
  refine yr_I0u 56 C (jc_init q4 _ _ _ _ (IW_h hI)) dX8_init_53 mt_Jx4a65c_init_da8c8 rfl mi_Jx4a65c_init_da8c8 ml_X8_9 (Nat.le_of_ble_eq_true rfl) (Nat.le_of_ble_eq_true rfl) (Nat.le_of_ble_eq_true rfl) (Nat.le_of_ble_eq_true rfl) (Nat.le_of_ble_eq_true rfl) rfl (fun h9 e9 => ?_)
  subst e9
  replace hI := IW_set1 (e' := .inr (0, [.int 0, .ref t0, .int 0])) hI
  generalize va_up h q4 (some (.inr (0, [.int 0, .ref t0, .int 0]))) = h at hI ⊢
  refine xx_putF 59 C hin dX8_init_56 fp_X8_25 hI.2.1 (Nat.le_of_ble_eq_true rfl) rfl rfl (IW_put hI) rfl (fun h hI => ?_)
  replace hI : IW h0 a 9 [.ref q0, .ref q1, .ref q2, .ref q3, .ref q4, .null, .null, .null, .int 0, .int 0, .null, .int 0, .int 0, .int 0, .null, .int 0] _ h := hI
  refine yr_aload_n 60 C dX8_init_59 rfl rfl rfl ?_
  refine yr_new 63 C dX8_init_60 nw_28 (Nat.le_of_ble_eq_true rfl) (Nat.le_of_ble_eq_true rfl) rfl (fun q13 hq13 => ?_)
  have hI := IW_new (e := (.inr (4, [.null, .int 0, .int 0]))) hI hq13
  generalize va_up h q13 (some (.inr (4, [.null, .int 0, .int 0]))) = h at hI ⊢
  refine yr_dup 64 C dX8_init_63 rfl rfl ?_
  refine yr_NI0u 67 C (xi_find q13 _ (IW_h hI)) dX8_init_64 mt_X3_init rfl mi_X3_init (yz_x C).2.2.1.1 (Nat.le_of_ble_eq_true rfl) (Nat.le_of_ble_eq_true rfl) (Nat.le_of_ble_eq_true rfl) (Nat.le_of_ble_eq_true rfl) (Nat.le_of_ble_eq_true rfl) rfl (fun h hIW => ?_)
  obtain ⟨q14, hIW⟩ := hIW
  replace hI := IW_call hI hIW
  refine xx_putF 70 C hin dX8_init_67 fp_X8_31 hI.2.1 (Nat.le_of_ble_eq_true rfl) rfl rfl (IW_put hI) rfl (fun h hI => ?_)
  replace hI : IW h0 a 9 [.ref q0, .ref q1, .ref q2, .ref q3, .ref q4, .ref q13, .null, .null, .int 0, .int 0, .null, .int 0, .int 0, .int 0, .null, .int 0] _ h := hI
  refine yr_aload_n 71 C dX8_init_70 rfl rfl rfl ?_
  refine yr_new 74 C dX8_init_71 nw_35 (Nat.le_of_ble_eq_true rfl) (Nat.le_of_ble_eq_true rfl) rfl (fun q15 hq15 => ?_)
  have hI := IW_new (e := (.inr (3, [.int 0, .int 0, .int 0, .int 0, .int 0]))) hI hq15
  generalize va_up h q15 (some (.inr (3, [.int 0, .int 0, .int 0, .int 0, .int 0]))) = h at hI ⊢
  refine yr_dup 75 C dX8_init_74 rfl rfl ?_
  refine yr_NI0u 78 C (xi_faults q15 _ (IW_h hI)) dX8_init_75 mt_X2_init rfl mi_X2_init (yz_x C).2.2.1.2.1 (Nat.le_of_ble_eq_true rfl) (Nat.le_of_ble_eq_true rfl) (Nat.le_of_ble_eq_true rfl) (Nat.le_of_ble_eq_true rfl) (Nat.le_of_ble_eq_true rfl) rfl (fun h hIW => ?_)
  replace hI := IW_call hI hIW
  refine xx_putF 81 C hin dX8_init_78 fp_X8_38 hI.2.1 (Nat.le_of_ble_eq_true rfl) rfl rfl (IW_put hI) rfl (fun h hI => ?_)
  replace hI : IW h0 a 9 [.ref q0, .ref q1, .ref q2, .ref q3, .ref q4, .ref q13, .ref q15, .null, .int 0, .int 0, .null, .int 0, .int 0, .int 0, .null, .int 0] _ h := hI
  refine yr_aload_n 82 C dX8_init_81 rfl rfl rfl ?_
  refine yr_new 85 C dX8_init_82 nw_42 (Nat.le_of_ble_eq_true rfl) (Nat.le_of_ble_eq_true rfl) rfl (fun q16 hq16 => ?_)
  have hI := IW_new (e := (.inr (1, [.int 0]))) hI hq16
  generalize va_up h q16 (some (.inr (1, [.int 0]))) = h at hI ⊢
  refine yr_dup 86 C dX8_init_85 rfl rfl ?_
  refine yr_NI0u 89 C (xi_bodies q16 _ (IW_h hI)) dX8_init_86 mt_X0_init rfl mi_X0_init (yz_x C).2.2.1.2.2 (Nat.le_of_ble_eq_true rfl) (Nat.le_of_ble_eq_true rfl) (Nat.le_of_ble_eq_true rfl) (Nat.le_of_ble_eq_true rfl) (Nat.le_of_ble_eq_true rfl) rfl (fun h hIW => ?_)
  replace hI := IW_call hI hIW
  refine xx_putF 92 C hin dX8_init_89 fp_X8_45 hI.2.1 (Nat.le_of_ble_eq_true rfl) rfl rfl (IW_put hI) rfl (fun h hI => ?_)
  replace hI : IW h0 a 9 [.ref q0, .ref q1, .ref q2, .ref q3, .ref q4, .ref q13, .ref q15, .ref q16, .int 0, .int 0, .null, .int 0, .int 0, .int 0, .null, .int 0] _ h := hI
  refine yr_aload_n 93 C dX8_init_92 rfl rfl rfl ?_
  refine yr_iconst 94 C (0) dX8_init_93 rfl rfl ?_
  refine xx_put 97 C dX8_init_94 fp_X8_49 hI.2.1 (Nat.le_of_ble_eq_true rfl) rfl rfl (IW_put hI) rfl (fun h hI => ?_)
  replace hI : IW h0 a 9 [.ref q0, .ref q1, .ref q2, .ref q3, .ref q4, .ref q13, .ref q15, .ref q16, .int (0), .int 0, .null, .int 0, .int 0, .int 0, .null, .int 0] _ h := hI
  refine yr_aload_n 98 C dX8_init_97 rfl rfl rfl ?_
  refine yr_iconst 99 C (0) dX8_init_98 rfl rfl ?_
  refine xx_put 102 C dX8_init_99 fp_X8_53 hI.2.1 (Nat.le_of_ble_eq_true rfl) rfl rfl (IW_put hI) rfl (fun h hI => ?_)
  replace hI : IW h0 a 9 [.ref q0, .ref q1, .ref q2, .ref q3, .ref q4, .ref q13, .ref q15, .ref q16, .int (0), .int (0), .null, .int 0, .int 0, .int 0, .null, .int 0] _ h := hI
  refine yr_aload_n 103 C dX8_init_102 rfl rfl rfl ?_
  refine yr_null 104 C dX8_init_103 rfl ?_
  refine xx_put 107 C dX8_init_104 fp_X8_56 hI.2.1 (Nat.le_of_ble_eq_true rfl) rfl rfl (IW_put hI) rfl (fun h hI => ?_)
  replace hI : IW h0 a 9 [.ref q0, .ref q1, .ref q2, .ref q3, .ref q4, .ref q13, .ref q15, .ref q16, .int (0), .int (0), .null, .int 0, .int 0, .int 0, .null, .int 0] _ h := hI
  refine yr_aload_n 108 C dX8_init_107 rfl rfl rfl ?_
  refine yr_iconst 109 C (0) dX8_init_108 rfl rfl ?_
  refine xx_put 112 C dX8_init_109 fp_X8_60 hI.2.1 (Nat.le_of_ble_eq_true rfl) rfl rfl (IW_put hI) rfl (fun h hI => ?_)
  replace hI : IW h0 a 9 [.ref q0, .ref q1, .ref q2, .ref q3, .ref q4, .ref q13, .ref q15, .ref q16, .int (0), .int (0), .null, .int (0), .int 0, .int 0, .null, .int 0] _ h := hI
  refine yr_aload_n 113 C dX8_init_112 rfl rfl rfl ?_
  refine yr_iconst 114 C (0) dX8_init_113 rfl rfl ?_
  refine xx_put 117 C dX8_init_114 fp_X8_63 hI.2.1 (Nat.le_of_ble_eq_true rfl) rfl rfl (IW_put hI) rfl (fun h hI => ?_)
  replace hI : IW h0 a 9 [.ref q0, .ref q1, .ref q2, .ref q3, .ref q4, .ref q13, .ref q15, .ref q16, .int (0), .int (0), .null, .int (0), .int (0), .int 0, .null, .int 0] _ h := hI
  refine yr_aload_n 118 C dX8_init_117 rfl rfl rfl ?_
  refine yr_iconst 119 C (0) dX8_init_118 rfl rfl ?_
  refine xx_put 122 C dX8_init_119 fp_X8_66 hI.2.1 (Nat.le_of_ble_eq_true rfl) rfl rfl (IW_put hI) rfl (fun h hI => ?_)
  replace hI : IW h0 a 9 [.ref q0, .ref q1, .ref q2, .ref q3, .ref q4, .ref q13, .ref q15, .ref q16, .int (0), .int (0), .null, .int (0), .int (0), .int (0), .null, .int 0] _ h := hI
  refine yr_aload_n 123 C dX8_init_122 rfl rfl rfl ?_
  refine yr_null 124 C dX8_init_123 rfl ?_
  refine xx_put 127 C dX8_init_124 fp_X8_69 hI.2.1 (Nat.le_of_ble_eq_true rfl) rfl rfl (IW_put hI) rfl (fun h hI => ?_)
  replace hI : IW h0 a 9 [.ref q0, .ref q1, .ref q2, .ref q3, .ref q4, .ref q13, .ref q15, .ref q16, .int (0), .int (0), .null, .int (0), .int (0), .int (0), .null, .int 0] _ h := hI
  refine yr_aload_n 128 C dX8_init_127 rfl rfl rfl ?_
  refine yr_iconst 129 C (-1) dX8_init_128 rfl rfl ?_
  refine xx_put 132 C dX8_init_129 fp_X8_72 hI.2.1 (Nat.le_of_ble_eq_true rfl) rfl rfl (IW_put hI) rfl (fun h hI => ?_)
  replace hI : IW h0 a 9 [.ref q0, .ref q1, .ref q2, .ref q3, .ref q4, .ref q13, .ref q15, .ref q16, .int (0), .int (0), .null, .int (0), .int (0), .int (0), .null, .int (-1)] _ h := hI
  refine yr_vret C dX8_init_132 hr (Nat.le_of_ble_eq_true rfl) (Nat.le_of_ble_eq_true rfl) ?_
  have hp := hI.2.2.2
  have hx := hI.2.2.1
  simp only [List.nil_append, List.cons_append, List.singleton_append, List.pairwise_cons, List.mem_cons, List.not_mem_nil, or_false, forall_eq_or_imp, forall_eq, implies_true, and_true, List.Pairwise.nil, ne_eq] at hp hx
  obtain ⟨⟨x16, -, w16⟩, ⟨x15, -, w15⟩, ⟨x14, -, w14⟩, ⟨x13, -, w13⟩, ⟨x4, -, w4⟩, ⟨x3, -, w3⟩, ⟨x2, -, w2⟩, ⟨x1, -, w1⟩, ⟨x0, -, w0⟩⟩ := hx
  refine ⟨rfl, fun _ => 0, fun _ => 0, Bi a q0 q1 q2 q3 q4 q13 q14 q15 q16 t0, fun _ => 0, 0, rfl, ⟨fun k i v => ?_, fun k i k' i' v v' e => ?_, fun i _ => ⟨fun z => absurd z (Nat.lt_irrefl 0), fun _ => ⟨rfl, rfl⟩⟩⟩, mI_0, Nat.le_refl 0⟩
  · rcases xV_0 v with ⟨rfl, rfl⟩ | ⟨rfl, rfl⟩ | ⟨rfl, rfl⟩ | ⟨rfl, rfl⟩ | ⟨rfl, rfl⟩ | ⟨rfl, rfl⟩ | ⟨rfl, rfl⟩ | ⟨rfl, rfl⟩ | ⟨rfl, rfl⟩ | ⟨rfl, rfl⟩
    · exact hI.2.1
    · exact w0
    · exact w1
    · exact w2
    · exact w3
    · exact w4
    · exact w13
    · show h q14 = _
      rw [w14]
      simp only [xC]
      congr 5
      funext z
      split <;> rfl
    · exact w15
    · exact w16
  · obtain ⟨⟨n1, n2, n3, n4, n5, n6, n7, n8⟩, ⟨m1, m2, m3, m4, m5, m6, m7⟩, ⟨l1, l2, l3, l4, l5, l6⟩, ⟨k1, k2, k3, k4, k5⟩, ⟨j1, j2, j3, j4⟩, ⟨i1, i2, i3⟩, ⟨g1, g2⟩, ⟨f1, -⟩⟩ := hp
    rcases xV_0 v with ⟨rfl, rfl⟩ | ⟨rfl, rfl⟩ | ⟨rfl, rfl⟩ | ⟨rfl, rfl⟩ | ⟨rfl, rfl⟩ | ⟨rfl, rfl⟩ | ⟨rfl, rfl⟩ | ⟨rfl, rfl⟩ | ⟨rfl, rfl⟩ | ⟨rfl, rfl⟩ <;> rcases xV_0 v' with ⟨rfl, rfl⟩ | ⟨rfl, rfl⟩ | ⟨rfl, rfl⟩ | ⟨rfl, rfl⟩ | ⟨rfl, rfl⟩ | ⟨rfl, rfl⟩ | ⟨rfl, rfl⟩ | ⟨rfl, rfl⟩ | ⟨rfl, rfl⟩ | ⟨rfl, rfl⟩
    all_goals simp only [Bi] at e
    all_goals first | exact ⟨rfl, rfl⟩ | exact absurd e (by assumption) | exact absurd e.symm (by assumption)
end X28
