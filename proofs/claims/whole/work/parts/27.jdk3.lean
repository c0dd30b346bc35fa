section JDK3
variable {D : va_G} {dA : Nat → ClassId} {t0 mi : Nat}
set_option maxHeartbeats 4000000 in
set_option maxRecDepth 100000 in
theorem jc_grow1_0 (la : Nat) (mc : Int32) (h : yH) (ha : h la = some (.inr (0, [.int mc, .ref t0, .int 0]))) : yM (yZ t0 mi D dA) D yJx4a65c_grow_92f84 cJx4a65c_grow_92f84 4 (some (.array (.object "java/lang/Object"))) 3 1 30 [.ref la, .int 1] h (fun r h' => ∃ q : Nat, r = some (.ref q) ∧ h q = none ∧ h' = va_up (va_up h q (some (.inl (dA 5, 10, yQ (fun _ => none))))) la (some (.inr (0, [.int mc, .ref q, .int 0])))) := by
  refine yM_of (yZ_ok t0 mi D dA) (by decide) rfl (Nat.le_of_ble_eq_true rfl) ?_
  intro p l e s m args below meth c A C hr hin
  show yW p l e (yR 3 1 30) s m args below meth c 4 D A 0 0 _ 0 [some (.ref la), some (.int 1), none, none] [] h
  refine yr_aload_n 1 C dJx4a65c_grow_92f84_0 rfl rfl rfl ?_
  refine yr_get 4 C dJx4a65c_grow_92f84_1 fl_Jx4a65c_9 ha rfl rfl ?_
  refine yr_tlen 5 C dJx4a65c_grow_92f84_4 rfl ?_
  refine yr_istore2 6 C dJx4a65c_grow_92f84_5 (by decide) rfl ?_
  refine yr_iload_n 7 C dJx4a65c_grow_92f84_6 rfl rfl ?_
  refine yr_if_gt 20 10 C dJx4a65c_grow_92f84_7 (by decide) rfl (fun c7 => ?_) (fun c7 => ?_)
  · exact absurd c7 (by decide)
  refine yr_aload_n 11 C dJx4a65c_grow_92f84_10 rfl rfl rfl ?_
  refine yr_get 14 C dJx4a65c_grow_92f84_11 fl_Jx4a65c_9 ha rfl rfl ?_
  refine yr_gets 17 C dJx4a65c_grow_92f84_14 fl_def rfl ?_
  refine yr_acmp_eq 45 20 C (x := some t0) (y := some t0) dJx4a65c_grow_92f84_17 (by decide) rfl (fun _ => ?_) (fun z => absurd rfl z)
  refine yr_aload_n 46 C dJx4a65c_grow_92f84_45 rfl rfl rfl ?_
  refine yr_bipush 48 C (10) dJx4a65c_grow_92f84_46 rfl rfl ?_
  refine yr_iload_n 49 C dJx4a65c_grow_92f84_48 rfl rfl ?_
  refine yr_S2v 52 C (jc_max _ _ _) dJx4a65c_grow_92f84_49 mt_J9_max_7cf53 ms_J9_max_7cf53 ml_Jx4a65c_79 (Nat.le_of_ble_eq_true rfl) (Nat.le_of_ble_eq_true rfl) (Nat.le_of_ble_eq_true rfl) (Nat.le_of_ble_eq_true rfl) (Nat.le_of_ble_eq_true rfl) rfl (fun h e => ?_)
  subst e
  rw [show jmax 10 1 = nI 10 from by decide]
  refine yr_newq (N := 10) 55 5 C dJx4a65c_grow_92f84_52 rfl cl_Jx4a65c_7 (yz_x C).1.2 (by decide) (Nat.le_of_ble_eq_true rfl) (Nat.le_of_ble_eq_true rfl) rfl (fun q hqn => ?_)
  have hne : la ≠ q := fun z => by rw [z, hqn] at ha; cases ha
  refine yr_dup_x1 56 C dJx4a65c_grow_92f84_55 rfl rfl rfl ?_
  refine yr_put 59 C dJx4a65c_grow_92f84_56 fp_Jx4a65c_9 ((va_up_ne' h _ hne).trans ha) (Nat.le_of_ble_eq_true rfl) rfl rfl rfl ?_
  refine yr_aret C dJx4a65c_grow_92f84_59 hr (Or.inr ⟨_, rfl⟩) rfl (Nat.le_of_ble_eq_true rfl) (Nat.le_of_ble_eq_true rfl) ?_
  exact ⟨q, rfl, hqn, rfl⟩
set_option maxHeartbeats 4000000 in
set_option maxRecDepth 100000 in
theorem jc_grow0_0 (la : Nat) (mc : Int32) (h : yH) (ha : h la = some (.inr (0, [.int mc, .ref t0, .int 0]))) : yM (yZ t0 mi D dA) D yJx4a65c_grow_d5877 cJx4a65c_grow_d5877 1 (some (.array (.object "java/lang/Object"))) 4 1 30 [.ref la] h (fun r h' => ∃ q : Nat, r = some (.ref q) ∧ h q = none ∧ h' = va_up (va_up h q (some (.inl (dA 5, 10, yQ (fun _ => none))))) la (some (.inr (0, [.int mc, .ref q, .int 0])))) := by
  refine yM_of (yZ_ok t0 mi D dA) (by decide) rfl (Nat.le_of_ble_eq_true rfl) ?_
  intro p l e s m args below meth c A C hr hin
  show yW p l e (yR 4 1 30) s m args below meth c 1 D A 0 0 _ 0 [some (.ref la)] [] h
  refine yr_aload_n 1 C dJx4a65c_grow_d5877_0 rfl rfl rfl ?_
  refine yr_aload_n 2 C dJx4a65c_grow_d5877_1 rfl rfl rfl ?_
  refine yr_get 5 C dJx4a65c_grow_d5877_2 fl_Jx4a65c_48 ha rfl rfl ?_
  refine yr_iconst 6 C (1) dJx4a65c_grow_d5877_5 rfl rfl ?_
  refine yr_iadd 7 C dJx4a65c_grow_d5877_6 rfl ?_
  rw [show (0 : Int32) + 1 = 1 from by decide]
  refine yr_V1w 10 C (jc_grow1_0 _ _ _ ha) dJx4a65c_grow_d5877_7 mt_Jx4a65c_grow_92f84 mv_Jx4a65c_grow_92f84 ml_Jx4a65c_69 ha rfl (Nat.le_of_ble_eq_true rfl) (Nat.le_of_ble_eq_true rfl) (Nat.le_of_ble_eq_true rfl) (Nat.le_of_ble_eq_true rfl) (Nat.le_of_ble_eq_true rfl) rfl (fun q h hq => ?_)
  refine yr_aret C dJx4a65c_grow_d5877_10 hr (Or.inr ⟨_, rfl⟩) rfl (Nat.le_of_ble_eq_true rfl) (Nat.le_of_ble_eq_true rfl) ?_
  exact ⟨q, rfl, hq⟩
set_option maxHeartbeats 4000000 in
set_option maxRecDepth 100000 in
theorem jc_add3_0 (la v ci : Nat) (mc : Int32) (vs : List Value) (r : vw_C) (h : yH) (ha : h la = some (.inr (0, [.int mc, .ref t0, .int 0]))) (hv : h v = some (.inr (ci, vs))) (hci : vwCl[ci]? = some r) (hca : ∀ (A : Nat → Prop) (U : State), yZ t0 mi D dA A U → va_Nw (.castable r.1 "java/lang/Object") U) (hvl : v ≠ la) : yM (yZ t0 mi D dA) D yJx4a65c_add_72be8 cJx4a65c_add_72be8 4 none 5 1 30 [.ref la, .ref v, .ref t0, .int 0] h (fun r h' => r = none ∧ ∃ q : Nat, h q = none ∧ h' = va_up (va_up h q (some (.inl (dA 5, 10, yQ (va_up (fun _ => none) 0 (some v)))))) la (some (.inr (0, [.int mc, .ref q, .int 1])))) := by
  refine yM_of (yZ_ok t0 mi D dA) (by decide) rfl (Nat.le_of_ble_eq_true rfl) ?_
  intro p l e s m args below meth c A C hr hin
  show yW p l e (yR 5 1 30) s m args below meth c 4 D A 0 0 _ 0 [some (.ref la), some (.ref v), some (.ref t0), some (.int 0)] [] h
  refine yr_iload_n 1 C dJx4a65c_add_72be8_0 rfl rfl ?_
  refine yr_aload_n 2 C dJx4a65c_add_72be8_1 rfl rfl rfl ?_
  refine yr_tlen 3 C dJx4a65c_add_72be8_2 rfl ?_
  refine yr_icmp_ne 11 6 C dJx4a65c_add_72be8_3 (by decide) rfl (fun c3 => ?_) (fun c3 => ?_)
  · exact absurd c3 (fun z => z rfl)
  refine yr_aload_n 7 C dJx4a65c_add_72be8_6 rfl rfl rfl ?_
  refine yr_V0w 10 C (jc_grow0_0 _ _ _ ha) dJx4a65c_add_72be8_7 mt_Jx4a65c_grow_d5877 mv_Jx4a65c_grow_d5877 ml_Jx4a65c_129 ha rfl (Nat.le_of_ble_eq_true rfl) (Nat.le_of_ble_eq_true rfl) (Nat.le_of_ble_eq_true rfl) (Nat.le_of_ble_eq_true rfl) (Nat.le_of_ble_eq_true rfl) rfl (fun q h hq => ?_)
  obtain ⟨hqn, rfl⟩ := hq
  refine yr_astore2 11 C dJx4a65c_add_72be8_10 rfl (by decide) rfl ?_
  refine yr_aload_n 12 C dJx4a65c_add_72be8_11 rfl rfl rfl ?_
  refine yr_iload_n 13 C dJx4a65c_add_72be8_12 rfl rfl ?_
  refine yr_aload_n 14 C dJx4a65c_add_72be8_13 rfl rfl rfl ?_
  have hla : la ≠ q := fun z => by rw [z, hqn] at ha; cases ha
  have hv0 : v ≠ q := fun z => by rw [z, hqn] at hv; cases hv
  obtain ⟨ci2, vs2, r2, hv2, hci2, hca2⟩ : ∃ (ci2 : Nat) (vs2 : List Value) (r2 : vw_C), va_up (va_up h q (some (.inl (dA 5, 10, yQ (fun _ => none))))) la (some (.inr (0, [.int mc, .ref q, .int 0]))) v = some (.inr (ci2, vs2)) ∧ vwCl[ci2]? = some r2 ∧ va_Nw (.castable r2.1 "java/lang/Object") s := by
    refine ⟨ci, vs, r, ?_, hci, hca _ _ C.2.2.2.2.2.2.2.2.1⟩
    rw [va_up_ne' _ _ hvl, va_up_ne' _ _ hv0]
    exact hv
  refine yr_aastO (i := 0) 15 5 C dJx4a65c_add_72be8_14 rfl ((va_up_ne' _ _ (Ne.symm hla)).trans (va_up_self' _ _ _)) hv2 hci2 (Or.inl hca2) (by decide) (by decide) rfl ?_
  refine yr_aload_n 16 C dJx4a65c_add_72be8_15 rfl rfl rfl ?_
  refine yr_iload_n 17 C dJx4a65c_add_72be8_16 rfl rfl ?_
  refine yr_iconst 18 C (1) dJx4a65c_add_72be8_17 rfl rfl ?_
  refine yr_iadd 19 C dJx4a65c_add_72be8_18 rfl ?_
  rw [show (0 : Int32) + 1 = 1 from by decide]
  refine yr_put 22 C dJx4a65c_add_72be8_19 fp_Jx4a65c_48 ((va_up_ne' _ _ hla).trans (va_up_self' _ _ _)) (Nat.le_of_ble_eq_true rfl) rfl rfl rfl ?_
  refine yr_vret C dJx4a65c_add_72be8_22 hr (Nat.le_of_ble_eq_true rfl) (Nat.le_of_ble_eq_true rfl) ?_
  refine ⟨rfl, q, hqn, ?_⟩
  funext j
  by_cases h1 : j = la
  · subst h1
    simp [va_up, hla]
  · by_cases h2 : j = q
    · subst h2
      simp [va_up, h1]
    · simp [va_up, h1, h2]
/-- what add leaves behind -/
def xAdd (dA : Nat → ClassId) (h : yH) (la ea cap n : Nat) (f : Nat → Option Nat) (mc : Int32) (v : Nat) (h' : yH) : Prop := ∃ (ea' cap' : Nat), ((ea' = ea ∧ cap' = cap) ∨ h ea' = none) ∧ n < cap' ∧ (cap' = cap ∨ cap' = 10 ∨ cap' = 15 ∨ cap' = 22) ∧ h' = va_up (va_up h ea' (some (.inl (dA 5, cap', yQ (fun j => if j < n then f j else if j = n then some v else none))))) la (some (.inr (0, [.int (mc + 1), .ref ea', .int (nI (n + 1))])))
set_option maxHeartbeats 4000000 in
set_option maxRecDepth 100000 in
theorem jc_addE_R (la ea v n cap ci : Nat) (mc : Int32) (f : Nat → Option Nat) (vs : List Value) (r : vw_C) (hn : n < cap) (hc : cap < 64) (h : yH) (ha : h la = some (.inr (0, [.int mc, .ref ea, .int (nI n)]))) (he : h ea = some (.inl (dA 5, cap, yQ f))) (hf : ∀ j, n ≤ j → f j = none) (hv : h v = some (.inr (ci, vs))) (hci : vwCl[ci]? = some r) (hca : ∀ (A : Nat → Prop) (U : State), yZ t0 mi D dA A U → va_Nw (.castable r.1 "java/lang/Object") U) (hvl : v ≠ la) : yM (yZ t0 mi D dA) D yJx4a65c_add_9ea2d cJx4a65c_add_9ea2d 2 (some .boolean) 6 1 30 [.ref la, .ref v] h (fun r h' => r = some (.int 1) ∧ xAdd dA h la ea cap (n) f mc v h') := by
  refine yM_of (yZ_ok t0 mi D dA) (by decide) rfl (Nat.le_of_ble_eq_true rfl) ?_
  intro p l e s m args below meth c A C hr hin
  show yW p l e (yR 6 1 30) s m args below meth c 2 D A 0 0 _ 0 [some (.ref la), some (.ref v)] [] h
  refine yr_aload_n 1 C dJx4a65c_add_9ea2d_0 rfl rfl rfl ?_
  refine yr_dup 2 C dJx4a65c_add_9ea2d_1 rfl rfl ?_
  refine yr_getM 5 C dJx4a65c_add_9ea2d_2 fs_Jx4a65c_63 sf_mod ha rfl rfl ?_
  refine yr_iconst 6 C (1) dJx4a65c_add_9ea2d_5 rfl rfl ?_
  refine yr_iadd 7 C dJx4a65c_add_9ea2d_6 rfl ?_
  obtain ⟨h1, hh⟩ : ∃ h1, h1 = va_up h la (some (.inr (0, [.int (mc + 1), .ref ea, .int (nI n)]))) := ⟨_, rfl⟩
  have ha1 : h1 la = some (.inr (0, [.int (mc + 1), .ref ea, .int (nI n)])) := by rw [hh]; exact va_up_self' _ _ _
  have hv1 : h1 v = some (.inr (ci, vs)) := by rw [hh, va_up_ne' _ _ hvl]; exact hv
  have hne : ea ≠ la := fun z => by rw [z, ha] at he; cases he
  have he1 : h1 ea = some (.inl (dA 5, cap, yQ f)) := by rw [hh, va_up_ne' _ _ hne]; exact he
  refine yr_putM 10 C dJx4a65c_add_9ea2d_7 fs_Jx4a65c_63 sf_mod ha (Nat.le_of_ble_eq_true rfl) rfl ?_
  rw [show va_up h la (some (.inr (0, [Value.int mc, .ref ea, .int (nI n)].set 0 (.int (mc + 1))))) = h1 from hh.symm]
  refine yr_aload_n 11 C dJx4a65c_add_9ea2d_10 rfl rfl rfl ?_
  refine yr_aload_n 12 C dJx4a65c_add_9ea2d_11 rfl rfl rfl ?_
  refine yr_aload_n 13 C dJx4a65c_add_9ea2d_12 rfl rfl rfl ?_
  refine yr_get 16 C dJx4a65c_add_9ea2d_13 fl_Jx4a65c_9 ha1 rfl rfl ?_
  refine yr_aload_n 17 C dJx4a65c_add_9ea2d_16 rfl rfl rfl ?_
  refine yr_get 20 C dJx4a65c_add_9ea2d_17 fl_Jx4a65c_48 ha1 rfl rfl ?_
  refine yr_V3u 23 C (jc_add3 _ _ _ _ _ _ _ _ _ _ hn (by omega) _ ha1 he1 hv1 hci hca) dJx4a65c_add_9ea2d_20 mt_Jx4a65c_add_72be8 mv_Jx4a65c_add_72be8 ml_Jx4a65c_131 ha1 rfl (Nat.le_of_ble_eq_true rfl) (Nat.le_of_ble_eq_true rfl) (Nat.le_of_ble_eq_true rfl) (Nat.le_of_ble_eq_true rfl) (Nat.le_of_ble_eq_true rfl) rfl (fun h hq => ?_)
  refine yr_iconst 24 C (1) dJx4a65c_add_9ea2d_23 rfl rfl ?_
  refine yr_zret C dJx4a65c_add_9ea2d_24 hr ?_ (Nat.le_of_ble_eq_true rfl) (Nat.le_of_ble_eq_true rfl) ?_
  · exact Or.inr rfl
  refine ⟨rfl, ea, cap, Or.inl ⟨rfl, rfl⟩, hn, Or.inl rfl, ?_⟩
  rw [hq, hh]
  have ef : va_up f n (some v) = fun j => if j < n then f j else if j = n then some v else none := by
    funext j
    by_cases q1 : j = n
    · subst q1
      simp [va_up]
    · by_cases q2 : j < n
      · simp [va_up, q1, q2]
      · simp [va_up, q1, q2, hf j (by omega)]
  rw [ef]
  funext j
  by_cases h1 : j = la
  · subst h1
    simp [va_up, Ne.symm hne]
  · by_cases h2 : j = ea
    · subst h2
      simp [va_up, h1]
    · simp [va_up, h1, h2]
set_option maxHeartbeats 4000000 in
set_option maxRecDepth 100000 in
theorem jc_addE_10 (la ea v ci : Nat) (mc : Int32) (f : Nat → Option Nat) (vs : List Value) (r : vw_C) (h : yH) (ha : h la = some (.inr (0, [.int mc, .ref ea, .int 10]))) (he : h ea = some (.inl (dA 5, 10, yQ f))) (hel : ∀ j y, f j = some y → ∃ (ci : Nat) (vs : List Value) (r : vw_C), h y = some (.inr (ci, vs)) ∧ vwCl[ci]? = some r ∧ ∀ (A : Nat → Prop) (U : State), yZ t0 mi D dA A U → va_Nw (.castable r.1 "java/lang/Object") U) (hv : h v = some (.inr (ci, vs))) (hci : vwCl[ci]? = some r) (hca : ∀ (A : Nat → Prop) (U : State), yZ t0 mi D dA A U → va_Nw (.castable r.1 "java/lang/Object") U) (hvl : v ≠ la) : yM (yZ t0 mi D dA) D yJx4a65c_add_9ea2d cJx4a65c_add_9ea2d 2 (some .boolean) 6 1 30 [.ref la, .ref v] h (fun r h' => r = some (.int 1) ∧ xAdd dA h la ea 10 (10) f mc v h') := by
  refine yM_of (yZ_ok t0 mi D dA) (by decide) rfl (Nat.le_of_ble_eq_true rfl) ?_
  intro p l e s m args below meth c A C hr hin
  show yW p l e (yR 6 1 30) s m args below meth c 2 D A 0 0 _ 0 [some (.ref la), some (.ref v)] [] h
  refine yr_aload_n 1 C dJx4a65c_add_9ea2d_0 rfl rfl rfl ?_
  refine yr_dup 2 C dJx4a65c_add_9ea2d_1 rfl rfl ?_
  refine yr_getM 5 C dJx4a65c_add_9ea2d_2 fs_Jx4a65c_63 sf_mod ha rfl rfl ?_
  refine yr_iconst 6 C (1) dJx4a65c_add_9ea2d_5 rfl rfl ?_
  refine yr_iadd 7 C dJx4a65c_add_9ea2d_6 rfl ?_
  obtain ⟨h1, hh⟩ : ∃ h1, h1 = va_up h la (some (.inr (0, [.int (mc + 1), .ref ea, .int (10)]))) := ⟨_, rfl⟩
  have ha1 : h1 la = some (.inr (0, [.int (mc + 1), .ref ea, .int (10)])) := by rw [hh]; exact va_up_self' _ _ _
  have hv1 : h1 v = some (.inr (ci, vs)) := by rw [hh, va_up_ne' _ _ hvl]; exact hv
  have hne : ea ≠ la := fun z => by rw [z, ha] at he; cases he
  have he1 : h1 ea = some (.inl (dA 5, 10, yQ f)) := by rw [hh, va_up_ne' _ _ hne]; exact he
  have hel1 : ∀ j y, f j = some y → ∃ (ci : Nat) (vs : List Value) (r : vw_C), h1 y = some (.inr (ci, vs)) ∧ vwCl[ci]? = some r ∧ ∀ (A : Nat → Prop) (U : State), yZ t0 mi D dA A U → va_Nw (.castable r.1 "java/lang/Object") U := by
    intro j y hy
    obtain ⟨ci3, vs3, r3, g1, g2, g3⟩ := hel j y hy
    by_cases z : y = la
    · subst z
      rw [ha] at g1
      cases g1
      exact ⟨_, _, r3, ha1, g2, g3⟩
    · exact ⟨ci3, vs3, r3, by rw [hh, va_up_ne' _ _ z]; exact g1, g2, g3⟩
  refine yr_putM 10 C dJx4a65c_add_9ea2d_7 fs_Jx4a65c_63 sf_mod ha (Nat.le_of_ble_eq_true rfl) rfl ?_
  rw [show va_up h la (some (.inr (0, [Value.int mc, .ref ea, .int (10)].set 0 (.int (mc + 1))))) = h1 from hh.symm]
  refine yr_aload_n 11 C dJx4a65c_add_9ea2d_10 rfl rfl rfl ?_
  refine yr_aload_n 12 C dJx4a65c_add_9ea2d_11 rfl rfl rfl ?_
  refine yr_aload_n 13 C dJx4a65c_add_9ea2d_12 rfl rfl rfl ?_
  refine yr_get 16 C dJx4a65c_add_9ea2d_13 fl_Jx4a65c_9 ha1 rfl rfl ?_
  refine yr_aload_n 17 C dJx4a65c_add_9ea2d_16 rfl rfl rfl ?_
  refine yr_get 20 C dJx4a65c_add_9ea2d_17 fl_Jx4a65c_48 ha1 rfl rfl ?_
  refine yr_V3u 23 C (jc_add3_10 _ _ _ _ _ _ _ _ _ ha1 he1 hel1 hv1 hci hca hvl) dJx4a65c_add_9ea2d_20 mt_Jx4a65c_add_72be8 mv_Jx4a65c_add_72be8 ml_Jx4a65c_131 ha1 rfl (Nat.le_of_ble_eq_true rfl) (Nat.le_of_ble_eq_true rfl) (Nat.le_of_ble_eq_true rfl) (Nat.le_of_ble_eq_true rfl) (Nat.le_of_ble_eq_true rfl) rfl (fun h hq => ?_)
  refine yr_iconst 24 C (1) dJx4a65c_add_9ea2d_23 rfl rfl ?_
  refine yr_zret C dJx4a65c_add_9ea2d_24 hr ?_ (Nat.le_of_ble_eq_true rfl) (Nat.le_of_ble_eq_true rfl) ?_
  · exact Or.inr rfl
  obtain ⟨q, hqn, hq⟩ := hq
  have hql : q ≠ la := fun z => by rw [z, ha1] at hqn; cases hqn
  have hqn0 := hqn
  rw [hh, va_up_ne' _ _ hql] at hqn0
  refine ⟨rfl, q, 15, Or.inr hqn0, by decide, by simp, ?_⟩
  rw [hq, hh]
  have ef : va_up (va_cpy f (fun _ => none) 0 0 10) 10 (some v) = fun j => if j < 10 then f j else if j = 10 then some v else none := by
    funext j
    by_cases q1 : j = 10
    · subst q1
      simp [va_up]
    · by_cases q2 : j < 10
      · simp [va_up, va_cpy, q1, q2]
      · simp [va_up, va_cpy, q1, q2]
  rw [ef]
  funext j
  by_cases h1 : j = la
  · subst h1
    simp [va_up]
    rfl
  · by_cases h2 : j = q
    · subst h2
      simp [va_up, h1]
    · simp [va_up, h1, h2]
set_option maxHeartbeats 4000000 in
set_option maxRecDepth 100000 in
theorem jc_addE_15 (la ea v ci : Nat) (mc : Int32) (f : Nat → Option Nat) (vs : List Value) (r : vw_C) (h : yH) (ha : h la = some (.inr (0, [.int mc, .ref ea, .int 15]))) (he : h ea = some (.inl (dA 5, 15, yQ f))) (hel : ∀ j y, f j = some y → ∃ (ci : Nat) (vs : List Value) (r : vw_C), h y = some (.inr (ci, vs)) ∧ vwCl[ci]? = some r ∧ ∀ (A : Nat → Prop) (U : State), yZ t0 mi D dA A U → va_Nw (.castable r.1 "java/lang/Object") U) (hv : h v = some (.inr (ci, vs))) (hci : vwCl[ci]? = some r) (hca : ∀ (A : Nat → Prop) (U : State), yZ t0 mi D dA A U → va_Nw (.castable r.1 "java/lang/Object") U) (hvl : v ≠ la) : yM (yZ t0 mi D dA) D yJx4a65c_add_9ea2d cJx4a65c_add_9ea2d 2 (some .boolean) 6 1 30 [.ref la, .ref v] h (fun r h' => r = some (.int 1) ∧ xAdd dA h la ea 15 (15) f mc v h') := by
  refine yM_of (yZ_ok t0 mi D dA) (by decide) rfl (Nat.le_of_ble_eq_true rfl) ?_
  intro p l e s m args below meth c A C hr hin
  show yW p l e (yR 6 1 30) s m args below meth c 2 D A 0 0 _ 0 [some (.ref la), some (.ref v)] [] h
  refine yr_aload_n 1 C dJx4a65c_add_9ea2d_0 rfl rfl rfl ?_
  refine yr_dup 2 C dJx4a65c_add_9ea2d_1 rfl rfl ?_
  refine yr_getM 5 C dJx4a65c_add_9ea2d_2 fs_Jx4a65c_63 sf_mod ha rfl rfl ?_
  refine yr_iconst 6 C (1) dJx4a65c_add_9ea2d_5 rfl rfl ?_
  refine yr_iadd 7 C dJx4a65c_add_9ea2d_6 rfl ?_
  obtain ⟨h1, hh⟩ : ∃ h1, h1 = va_up h la (some (.inr (0, [.int (mc + 1), .ref ea, .int (15)]))) := ⟨_, rfl⟩
  have ha1 : h1 la = some (.inr (0, [.int (mc + 1), .ref ea, .int (15)])) := by rw [hh]; exact va_up_self' _ _ _
  have hv1 : h1 v = some (.inr (ci, vs)) := by rw [hh, va_up_ne' _ _ hvl]; exact hv
  have hne : ea ≠ la := fun z => by rw [z, ha] at he; cases he
  have he1 : h1 ea = some (.inl (dA 5, 15, yQ f)) := by rw [hh, va_up_ne' _ _ hne]; exact he
  have hel1 : ∀ j y, f j = some y → ∃ (ci : Nat) (vs : List Value) (r : vw_C), h1 y = some (.inr (ci, vs)) ∧ vwCl[ci]? = some r ∧ ∀ (A : Nat → Prop) (U : State), yZ t0 mi D dA A U → va_Nw (.castable r.1 "java/lang/Object") U := by
    intro j y hy
    obtain ⟨ci3, vs3, r3, g1, g2, g3⟩ := hel j y hy
    by_cases z : y = la
    · subst z
      rw [ha] at g1
      cases g1
      exact ⟨_, _, r3, ha1, g2, g3⟩
    · exact ⟨ci3, vs3, r3, by rw [hh, va_up_ne' _ _ z]; exact g1, g2, g3⟩
  refine yr_putM 10 C dJx4a65c_add_9ea2d_7 fs_Jx4a65c_63 sf_mod ha (Nat.le_of_ble_eq_true rfl) rfl ?_
  rw [show va_up h la (some (.inr (0, [Value.int mc, .ref ea, .int (15)].set 0 (.int (mc + 1))))) = h1 from hh.symm]
  refine yr_aload_n 11 C dJx4a65c_add_9ea2d_10 rfl rfl rfl ?_
  refine yr_aload_n 12 C dJx4a65c_add_9ea2d_11 rfl rfl rfl ?_
  refine yr_aload_n 13 C dJx4a65c_add_9ea2d_12 rfl rfl rfl ?_
  refine yr_get 16 C dJx4a65c_add_9ea2d_13 fl_Jx4a65c_9 ha1 rfl rfl ?_
  refine yr_aload_n 17 C dJx4a65c_add_9ea2d_16 rfl rfl rfl ?_
  refine yr_get 20 C dJx4a65c_add_9ea2d_17 fl_Jx4a65c_48 ha1 rfl rfl ?_
  refine yr_V3u 23 C (jc_add3_15 _ _ _ _ _ _ _ _ _ ha1 he1 hel1 hv1 hci hca hvl) dJx4a65c_add_9ea2d_20 mt_Jx4a65c_add_72be8 mv_Jx4a65c_add_72be8 ml_Jx4a65c_131 ha1 rfl (Nat.le_of_ble_eq_true rfl) (Nat.le_of_ble_eq_true rfl) (Nat.le_of_ble_eq_true rfl) (Nat.le_of_ble_eq_true rfl) (Nat.le_of_ble_eq_true rfl) rfl (fun h hq => ?_)
  refine yr_iconst 24 C (1) dJx4a65c_add_9ea2d_23 rfl rfl ?_
  refine yr_zret C dJx4a65c_add_9ea2d_24 hr ?_ (Nat.le_of_ble_eq_true rfl) (Nat.le_of_ble_eq_true rfl) ?_
  · exact Or.inr rfl
  obtain ⟨q, hqn, hq⟩ := hq
  have hql : q ≠ la := fun z => by rw [z, ha1] at hqn; cases hqn
  have hqn0 := hqn
  rw [hh, va_up_ne' _ _ hql] at hqn0
  refine ⟨rfl, q, 22, Or.inr hqn0, by decide, by simp, ?_⟩
  rw [hq, hh]
  have ef : va_up (va_cpy f (fun _ => none) 0 0 15) 15 (some v) = fun j => if j < 15 then f j else if j = 15 then some v else none := by
    funext j
    by_cases q1 : j = 15
    · subst q1
      simp [va_up]
    · by_cases q2 : j < 15
      · simp [va_up, va_cpy, q1, q2]
      · simp [va_up, va_cpy, q1, q2]
  rw [ef]
  funext j
  by_cases h1 : j = la
  · subst h1
    simp [va_up]
    rfl
  · by_cases h2 : j = q
    · subst h2
      simp [va_up, h1]
    · simp [va_up, h1, h2]
set_option maxHeartbeats 4000000 in
set_option maxRecDepth 100000 in
theorem jc_addE_0 (la v ci : Nat) (mc : Int32) (f : Nat → Option Nat) (vs : List Value) (r : vw_C) (h : yH) (ha : h la = some (.inr (0, [.int mc, .ref t0, .int 0]))) (hv : h v = some (.inr (ci, vs))) (hci : vwCl[ci]? = some r) (hca : ∀ (A : Nat → Prop) (U : State), yZ t0 mi D dA A U → va_Nw (.castable r.1 "java/lang/Object") U) (hvl : v ≠ la) : yM (yZ t0 mi D dA) D yJx4a65c_add_9ea2d cJx4a65c_add_9ea2d 2 (some .boolean) 6 1 30 [.ref la, .ref v] h (fun r h' => r = some (.int 1) ∧ xAdd dA h la t0 0 (0) f mc v h') := by
  refine yM_of (yZ_ok t0 mi D dA) (by decide) rfl (Nat.le_of_ble_eq_true rfl) ?_
  intro p l e s m args below meth c A C hr hin
  show yW p l e (yR 6 1 30) s m args below meth c 2 D A 0 0 _ 0 [some (.ref la), some (.ref v)] [] h
  refine yr_aload_n 1 C dJx4a65c_add_9ea2d_0 rfl rfl rfl ?_
  refine yr_dup 2 C dJx4a65c_add_9ea2d_1 rfl rfl ?_
  refine yr_getM 5 C dJx4a65c_add_9ea2d_2 fs_Jx4a65c_63 sf_mod ha rfl rfl ?_
  refine yr_iconst 6 C (1) dJx4a65c_add_9ea2d_5 rfl rfl ?_
  refine yr_iadd 7 C dJx4a65c_add_9ea2d_6 rfl ?_
  obtain ⟨h1, hh⟩ : ∃ h1, h1 = va_up h la (some (.inr (0, [.int (mc + 1), .ref t0, .int (0)]))) := ⟨_, rfl⟩
  have ha1 : h1 la = some (.inr (0, [.int (mc + 1), .ref t0, .int (0)])) := by rw [hh]; exact va_up_self' _ _ _
  have hv1 : h1 v = some (.inr (ci, vs)) := by rw [hh, va_up_ne' _ _ hvl]; exact hv
  skip
  refine yr_putM 10 C dJx4a65c_add_9ea2d_7 fs_Jx4a65c_63 sf_mod ha (Nat.le_of_ble_eq_true rfl) rfl ?_
  rw [show va_up h la (some (.inr (0, [Value.int mc, .ref t0, .int (0)].set 0 (.int (mc + 1))))) = h1 from hh.symm]
  refine yr_aload_n 11 C dJx4a65c_add_9ea2d_10 rfl rfl rfl ?_
  refine yr_aload_n 12 C dJx4a65c_add_9ea2d_11 rfl rfl rfl ?_
  refine yr_aload_n 13 C dJx4a65c_add_9ea2d_12 rfl rfl rfl ?_
  refine yr_get 16 C dJx4a65c_add_9ea2d_13 fl_Jx4a65c_9 ha1 rfl rfl ?_
  refine yr_aload_n 17 C dJx4a65c_add_9ea2d_16 rfl rfl rfl ?_
  refine yr_get 20 C dJx4a65c_add_9ea2d_17 fl_Jx4a65c_48 ha1 rfl rfl ?_
  refine yr_V3u 23 C (jc_add3_0 _ _ _ _ _ _ _ ha1 hv1 hci hca hvl) dJx4a65c_add_9ea2d_20 mt_Jx4a65c_add_72be8 mv_Jx4a65c_add_72be8 ml_Jx4a65c_131 ha1 rfl (Nat.le_of_ble_eq_true rfl) (Nat.le_of_ble_eq_true rfl) (Nat.le_of_ble_eq_true rfl) (Nat.le_of_ble_eq_true rfl) (Nat.le_of_ble_eq_true rfl) rfl (fun h hq => ?_)
  refine yr_iconst 24 C (1) dJx4a65c_add_9ea2d_23 rfl rfl ?_
  refine yr_zret C dJx4a65c_add_9ea2d_24 hr ?_ (Nat.le_of_ble_eq_true rfl) (Nat.le_of_ble_eq_true rfl) ?_
  · exact Or.inr rfl
  obtain ⟨q, hqn, hq⟩ := hq
  have hql : q ≠ la := fun z => by rw [z, ha1] at hqn; cases hqn
  have hqn0 := hqn
  rw [hh, va_up_ne' _ _ hql] at hqn0
  refine ⟨rfl, q, 10, Or.inr hqn0, by decide, by simp, ?_⟩
  rw [hq, hh]
  have ef : va_up (fun _ => none) 0 (some v) = fun j => if j < 0 then f j else if j = 0 then some v else none := by
    funext j
    by_cases q1 : j = 0
    · subst q1
      simp [va_up]
    · simp [va_up, q1]
  rw [ef]
  funext j
  by_cases h1 : j = la
  · subst h1
    simp [va_up]
    rfl
  · by_cases h2 : j = q
    · subst h2
      simp [va_up, h1]
    · simp [va_up, h1, h2]
theorem jc_add (la ea v n cap ci : Nat) (mc : Int32) (f : Nat → Option Nat) (vs : List Value) (r : vw_C) (h : yH) (ha : h la = some (.inr (0, [.int mc, .ref ea, .int (nI n)]))) (hcase : (0 < cap ∧ h ea = some (.inl (dA 5, cap, yQ f)) ∧ n ≤ cap ∧ cap < 64 ∧ (n = cap → cap = 10 ∨ cap = 15)) ∨ (cap = 0 ∧ ea = t0 ∧ n = 0)) (hf : ∀ j, n ≤ j → f j = none) (hel : ∀ j y, f j = some y → ∃ (ci : Nat) (vs : List Value) (r : vw_C), h y = some (.inr (ci, vs)) ∧ vwCl[ci]? = some r ∧ ∀ (A : Nat → Prop) (U : State), yZ t0 mi D dA A U → va_Nw (.castable r.1 "java/lang/Object") U) (hv : h v = some (.inr (ci, vs))) (hci : vwCl[ci]? = some r) (hca : ∀ (A : Nat → Prop) (U : State), yZ t0 mi D dA A U → va_Nw (.castable r.1 "java/lang/Object") U) (hvl : v ≠ la) : yM (yZ t0 mi D dA) D yJx4a65c_add_9ea2d cJx4a65c_add_9ea2d 2 (some .boolean) 6 1 30 [.ref la, .ref v] h (fun r h' => r = some (.int 1) ∧ xAdd dA h la ea cap n f mc v h') := by
  rcases hcase with ⟨h0, he, hn, hc, hfull⟩ | ⟨rfl, rfl, rfl⟩
  · by_cases hlt : n < cap
    · exact jc_addE_R la ea v n cap ci mc f vs r hlt hc h ha he hf hv hci hca hvl
    · have e : n = cap := by omega
      rcases hfull e with z | z
      · subst e
        subst z
        exact jc_addE_10 la ea v ci mc f vs r h ha he hel hv hci hca hvl
      · subst e
        subst z
        exact jc_addE_15 la ea v ci mc f vs r h ha he hel hv hci hca hvl
  · exact jc_addE_0 la v ci mc f vs r h ha hv hci hca hvl
set_option maxHeartbeats 4000000 in
set_option maxRecDepth 100000 in
theorem jc_fastRemove (la ea i n cap : Nat) (mc : Int32) (f : Nat → Option Nat) (hi : i < n) (hnc : n ≤ cap) (hc : cap < 64) (h : yH) (ha : h la = some (.inr (0, [.int mc, .ref ea, .int (nI n)]))) (he : h ea = some (.inl (dA 5, cap, yQ f))) (hel : ∀ j y, f j = some y → ∃ (ci : Nat) (vs : List Value) (r : vw_C), h y = some (.inr (ci, vs)) ∧ vwCl[ci]? = some r ∧ ∀ (A : Nat → Prop) (U : State), yZ t0 mi D dA A U → va_Nw (.castable r.1 "java/lang/Object") U) (hf : ∀ j, n ≤ j → f j = none) : yM (yZ t0 mi D dA) D yJx4a65c_fastRemove_b59b0 cJx4a65c_fastRemove_b59b0 4 none 1 0 0 [.ref la, .ref ea, .int (nI i)] h (fun r h' => r = none ∧ h' = va_up (va_up h ea (some (.inl (dA 5, cap, yQ (fun j => if j < i then f j else if j < n - 1 then f (j + 1) else none))))) la (some (.inr (0, [.int (mc + 1), .ref ea, .int (nI (n - 1))])))) := by
  refine yM_of (yZ_ok t0 mi D dA) (by decide) rfl (Nat.le_of_ble_eq_true rfl) ?_
  intro p l e s m args below meth c A C hr hin
  show yW p l e (yR 1 0 0) s m args below meth c 4 D A 0 0 _ 0 [some (.ref la), some (.ref ea), some (.int (nI i)), none] [] h
  refine yr_aload_n 1 C dJx4a65c_fastRemove_b59b0_0 rfl rfl rfl ?_
  refine yr_dup 2 C dJx4a65c_fastRemove_b59b0_1 rfl rfl ?_
  refine yr_getM 5 C dJx4a65c_fastRemove_b59b0_2 fs_Jx4a65c_63 sf_mod ha rfl rfl ?_
  refine yr_iconst 6 C (1) dJx4a65c_fastRemove_b59b0_5 rfl rfl ?_
  refine yr_iadd 7 C dJx4a65c_fastRemove_b59b0_6 rfl ?_
  have hne : ea ≠ la := fun z => by rw [z, ha] at he; cases he
  refine yr_putM 10 C dJx4a65c_fastRemove_b59b0_7 fs_Jx4a65c_63 sf_mod ha (Nat.le_of_ble_eq_true rfl) rfl ?_
  refine yr_aload_n 11 C dJx4a65c_fastRemove_b59b0_10 rfl rfl rfl ?_
  refine yr_get 14 C dJx4a65c_fastRemove_b59b0_11 fl_Jx4a65c_48 (va_up_self' _ _ _) rfl rfl ?_
  refine yr_iconst 15 C (1) dJx4a65c_fastRemove_b59b0_14 rfl rfl ?_
  refine yr_isub 16 C dJx4a65c_fastRemove_b59b0_15 rfl ?_
  rw [show nI n - 1 = nI (n - 1) from by rw [show (1 : Int32) = nI 1 from rfl, pk_sub (by omega)]]
  refine yr_dup 17 C dJx4a65c_fastRemove_b59b0_16 rfl rfl ?_
  refine yr_istore3 18 C dJx4a65c_fastRemove_b59b0_17 (by decide) rfl ?_
  refine yr_iload_n 19 C dJx4a65c_fastRemove_b59b0_18 rfl rfl ?_
  refine yr_icmp_le 34 22 C dJx4a65c_fastRemove_b59b0_19 (by decide) rfl (fun c19 => ?_) (fun c19 => ?_)
  · have c20 : n - 1 ≤ i := (nI_leI (by omega) (by omega)).mp c19
    refine yr_aload_n 35 C dJx4a65c_fastRemove_b59b0_34 rfl rfl rfl ?_
    refine yr_aload_n 36 C dJx4a65c_fastRemove_b59b0_35 rfl rfl rfl ?_
    refine yr_iload_n 37 C dJx4a65c_fastRemove_b59b0_36 rfl rfl ?_
    refine yr_dup_x1 38 C dJx4a65c_fastRemove_b59b0_37 rfl rfl rfl ?_
    refine yr_put 41 C dJx4a65c_fastRemove_b59b0_38 fp_Jx4a65c_48 (by first | exact va_up_self' _ _ _ | exact (va_up_ne' _ _ (Ne.symm hne)).trans (va_up_self' _ _ _)) (Nat.le_of_ble_eq_true rfl) rfl rfl rfl ?_
    refine yr_null 42 C dJx4a65c_fastRemove_b59b0_41 rfl ?_
    refine yr_aastN (i := n - 1) 43 5 C dJx4a65c_fastRemove_b59b0_42 rfl (by first | exact (va_up_ne' _ _ hne).trans (va_up_self' _ _ _) | exact (va_up_ne' _ _ hne).trans ((va_up_ne' _ _ hne).trans he)) (by omega) (by omega) rfl ?_
    refine yr_vret C dJx4a65c_fastRemove_b59b0_43 hr (Nat.le_of_ble_eq_true rfl) (Nat.le_of_ble_eq_true rfl) ?_
    refine ⟨rfl, ?_⟩
    have ef : va_up f (n - 1) none = fun j => if j < i then f j else if j < n - 1 then f (j + 1) else none := by
      funext j
      by_cases q1 : j = n - 1
      · subst q1
        simp [va_up, show ¬ n - 1 < i by omega]
      · by_cases q2 : j < i
        · simp [va_up, va_cpy, q1, q2, show ¬ i ≤ j by omega]
        · by_cases q3 : j < n - 1
          · have q4 : i + 1 + (j - i) = j + 1 := by omega
            have q5 : j < i + (n - 1 - i) := by omega
            simp [va_up, va_cpy, q1, q2, q3, q4, q5, show i ≤ j by omega] <;> omega
          · simp [va_up, va_cpy, q1, q2, q3, hf j (by omega), show ¬ j < i + (n - 1 - i) by omega]
    rw [← ef]
    funext j
    by_cases h1 : j = la
    · subst h1
      simp [va_up, hne, Ne.symm hne]
    · by_cases h2 : j = ea
      · subst h2
        simp [va_up, hne, h1]
      · simp [va_up, h1, h2]
  · refine yr_aload_n 23 C dJx4a65c_fastRemove_b59b0_22 rfl rfl rfl ?_
    refine yr_iload_n 24 C dJx4a65c_fastRemove_b59b0_23 rfl rfl ?_
    refine yr_iconst 25 C (1) dJx4a65c_fastRemove_b59b0_24 rfl rfl ?_
    refine yr_iadd 26 C dJx4a65c_fastRemove_b59b0_25 rfl ?_
    refine yr_aload_n 27 C dJx4a65c_fastRemove_b59b0_26 rfl rfl rfl ?_
    refine yr_iload_n 28 C dJx4a65c_fastRemove_b59b0_27 rfl rfl ?_
    refine yr_iload_n 29 C dJx4a65c_fastRemove_b59b0_28 rfl rfl ?_
    refine yr_iload_n 30 C dJx4a65c_fastRemove_b59b0_29 rfl rfl ?_
    refine yr_isub 31 C dJx4a65c_fastRemove_b59b0_30 rfl ?_
    rw [nI_1, pk_sub (show i ≤ n - 1 by omega)]
    have c20 : ¬ n - 1 ≤ i := fun z => c19 (nI_le z (by omega))
    refine yr_acopy 34 C (i + 1) i (n - 1 - i) dJx4a65c_fastRemove_b59b0_31 ml_Jx4a65c_112 ((va_up_ne' _ _ hne).trans he) ((va_up_ne' _ _ hne).trans he) (by omega) (by omega) (by omega) (by omega) (fun k hk y hy => ?_) (Nat.le_of_ble_eq_true rfl) (Nat.le_of_ble_eq_true rfl) rfl ?_
    · obtain ⟨ci, vs, r, g1, g2, g3⟩ := hel _ y hy
      by_cases z : y = la
      · subst z
        rw [ha] at g1
        cases g1
        exact ⟨_, _, r, va_up_self' _ _ _, g2, g3 _ _ C.2.2.2.2.2.2.2.2.1⟩
      · exact ⟨ci, vs, r, (va_up_ne' _ _ z).trans g1, g2, g3 _ _ C.2.2.2.2.2.2.2.2.1⟩
    skip
    refine yr_aload_n 35 C dJx4a65c_fastRemove_b59b0_34 rfl rfl rfl ?_
    refine yr_aload_n 36 C dJx4a65c_fastRemove_b59b0_35 rfl rfl rfl ?_
    refine yr_iload_n 37 C dJx4a65c_fastRemove_b59b0_36 rfl rfl ?_
    refine yr_dup_x1 38 C dJx4a65c_fastRemove_b59b0_37 rfl rfl rfl ?_
    refine yr_put 41 C dJx4a65c_fastRemove_b59b0_38 fp_Jx4a65c_48 (by first | exact va_up_self' _ _ _ | exact (va_up_ne' _ _ (Ne.symm hne)).trans (va_up_self' _ _ _)) (Nat.le_of_ble_eq_true rfl) rfl rfl rfl ?_
    refine yr_null 42 C dJx4a65c_fastRemove_b59b0_41 rfl ?_
    refine yr_aastN (i := n - 1) 43 5 C dJx4a65c_fastRemove_b59b0_42 rfl (by first | exact (va_up_ne' _ _ hne).trans (va_up_self' _ _ _) | exact (va_up_ne' _ _ hne).trans ((va_up_ne' _ _ hne).trans he)) (by omega) (by omega) rfl ?_
    refine yr_vret C dJx4a65c_fastRemove_b59b0_43 hr (Nat.le_of_ble_eq_true rfl) (Nat.le_of_ble_eq_true rfl) ?_
    refine ⟨rfl, ?_⟩
    have ef : va_up (va_cpy f f (i + 1) i (n - 1 - i)) (n - 1) none = fun j => if j < i then f j else if j < n - 1 then f (j + 1) else none := by
      funext j
      by_cases q1 : j = n - 1
      · subst q1
        simp [va_up, show ¬ n - 1 < i by omega]
      · by_cases q2 : j < i
        · simp [va_up, va_cpy, q1, q2, show ¬ i ≤ j by omega]
        · by_cases q3 : j < n - 1
          · have q4 : i + 1 + (j - i) = j + 1 := by omega
            have q5 : j < i + (n - 1 - i) := by omega
            simp [va_up, va_cpy, q1, q2, q3, q4, q5, show i ≤ j by omega] <;> omega
          · simp [va_up, va_cpy, q1, q2, q3, hf j (by omega), show ¬ j < i + (n - 1 - i) by omega]
    rw [← ef]
    funext j
    by_cases h1 : j = la
    · subst h1
      simp [va_up, hne, Ne.symm hne]
    · by_cases h2 : j = ea
      · subst h2
        simp [va_up, hne, h1]
      · simp [va_up, h1, h2]
set_option maxHeartbeats 4000000 in
set_option maxRecDepth 100000 in
theorem jc_remove (la ea i n cap : Nat) (mc : Int32) (f : Nat → Option Nat) (hi : i < n) (hnc : n ≤ cap) (hc : cap < 64) (h : yH) (ha : h la = some (.inr (0, [.int mc, .ref ea, .int (nI n)]))) (he : h ea = some (.inl (dA 5, cap, yQ f))) (hel : ∀ j y, f j = some y → ∃ (ci : Nat) (vs : List Value) (r : vw_C), h y = some (.inr (ci, vs)) ∧ vwCl[ci]? = some r ∧ ∀ (A : Nat → Prop) (U : State), yZ t0 mi D dA A U → va_Nw (.castable r.1 "java/lang/Object") U) (hf : ∀ j, n ≤ j → f j = none) : yM (yZ t0 mi D dA) D yJx4a65c_remove_915e3 cJx4a65c_remove_915e3 4 (some (.object "java/lang/Object")) 2 0 0 [.ref la, .int (nI i)] h (fun r h' => r = some (va_rf (f i)) ∧ h' = va_up (va_up h ea (some (.inl (dA 5, cap, yQ (fun j => if j < i then f j else if j < n - 1 then f (j + 1) else none))))) la (some (.inr (0, [.int (mc + 1), .ref ea, .int (nI (n - 1))])))) := by
  refine yM_of (yZ_ok t0 mi D dA) (by decide) rfl (Nat.le_of_ble_eq_true rfl) ?_
  intro p l e s m args below meth c A C hr hin
  show yW p l e (yR 2 0 0) s m args below meth c 4 D A 0 0 _ 0 [some (.ref la), some (.int (nI i)), none, none] [] h
  have hn : n < 2 ^ 31 := by omega
  refine yr_iload_n 1 C dJx4a65c_remove_915e3_0 rfl rfl ?_
  refine yr_aload_n 2 C dJx4a65c_remove_915e3_1 rfl rfl rfl ?_
  refine yr_get 5 C dJx4a65c_remove_915e3_2 fl_Jx4a65c_48 ha rfl rfl ?_
  refine yr_S2v 8 C (jc_chk _ _ hi hn _) dJx4a65c_remove_915e3_5 mt_J15_checkIndex_7cf53 ms_J15_checkIndex_7cf53 ml_Jx4a65c_118 (Nat.le_of_ble_eq_true rfl) (Nat.le_of_ble_eq_true rfl) (Nat.le_of_ble_eq_true rfl) (Nat.le_of_ble_eq_true rfl) (Nat.le_of_ble_eq_true rfl) rfl (fun h e => ?_)
  subst e
  refine yr_pop 9 C dJx4a65c_remove_915e3_8 rfl rfl ?_
  refine yr_aload_n 10 C dJx4a65c_remove_915e3_9 rfl rfl rfl ?_
  refine yr_get 13 C dJx4a65c_remove_915e3_10 fl_Jx4a65c_9 ha rfl rfl ?_
  refine yr_astore2 14 C dJx4a65c_remove_915e3_13 rfl (by decide) rfl ?_
  refine yr_aload_n 15 C dJx4a65c_remove_915e3_14 rfl rfl rfl ?_
  refine yr_iload_n 16 C dJx4a65c_remove_915e3_15 rfl rfl ?_
  refine yr_aald 17 5 C dJx4a65c_remove_915e3_16 rfl he (by omega) (by omega) rfl ?_
  refine yr_astore3 18 C dJx4a65c_remove_915e3_17 (yd_isref_rf _) (by decide) rfl ?_
  refine yr_aload_n 19 C dJx4a65c_remove_915e3_18 rfl rfl rfl ?_
  refine yr_aload_n 20 C dJx4a65c_remove_915e3_19 rfl rfl rfl ?_
  refine yr_iload_n 21 C dJx4a65c_remove_915e3_20 rfl rfl ?_
  refine yr_V2u 24 C (jc_fastRemove _ _ _ _ _ _ _ hi hnc hc _ ha he hel hf) dJx4a65c_remove_915e3_21 mt_Jx4a65c_fastRemove_b59b0 mv_Jx4a65c_fastRemove_b59b0 ml_Jx4a65c_144 ha rfl (Nat.le_of_ble_eq_true rfl) (Nat.le_of_ble_eq_true rfl) (Nat.le_of_ble_eq_true rfl) (Nat.le_of_ble_eq_true rfl) (Nat.le_of_ble_eq_true rfl) rfl (fun h e => ?_)
  subst e
  refine yr_aload_n 25 C dJx4a65c_remove_915e3_24 rfl (yd_isref_rf _) rfl ?_
  refine yr_aret C dJx4a65c_remove_915e3_25 hr (Or.inl ⟨_, rfl⟩) (yd_isref_rf _) (Nat.le_of_ble_eq_true rfl) (Nat.le_of_ble_eq_true rfl) ?_
  exact ⟨rfl, rfl⟩
end JDK3
