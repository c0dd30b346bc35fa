theorem mset_self (S : yS) (k j : Nat) : mset S k j (S k j) = S := by
  funext a b
  by_cases c : a = k
  · subst c
    rw [mset_at]
    by_cases d : b = j
    · rw [if_pos d, d]
    · rw [if_neg d]
  · rw [mset_ne _ _ c]
theorem m_free_x (S : yS) (p q : Nat) (u : Int32) : m_free S p q u = if xCl S p q = -5 then S else mset S 9 q (jmax (S 9 q) (u + xCl S p q)) := by
  unfold m_free xCl
  by_cases c : 0 < S 16 (8 * p + q)
  · have c1 : ¬ S 16 (8 * p + q) ≤ 0 := Int32.not_le.mpr c
    have c2 : ¬ S 16 (8 * p + q) - 1 = -5 := fun e => by
      have e2 : S 16 (8 * p + q) = -5 + 1 := by rw [← e]; exact (Int32.sub_add_cancel _ _).symm
      rw [e2] at c
      exact absurd c (by decide)
    have e3 : u + S 16 (8 * p + q) - 1 = u + (S 16 (8 * p + q) - 1) := by rw [Int32.sub_eq_add_neg, Int32.sub_eq_add_neg, Int32.add_assoc]
    simp only [if_pos c, if_neg c1, if_neg c2, e3]
    unfold jmax
    by_cases d : S 9 q < u + (S 16 (8 * p + q) - 1)
    · rw [if_neg (Int32.not_le.mpr d), if_pos d]
    · rw [if_pos (Int32.not_lt.mp d), if_neg d, mset_self]
  · have c1 : S 16 (8 * p + q) ≤ 0 := Int32.not_lt.mp c
    simp only [if_neg c, if_pos c1, if_true]
theorem m_rd_ask {S : yS} {np t : Nat} (h0 : S 0 0 = nI t) (ha : ∀ p, p < np → cO (S 10 p) (t + 1)) (i : Nat) : ∀ p, p < np → cO (m_rd S i 10 p) (t + 1) := by
  intro p hp
  have r1 := m_doesHold_rw S i
  have r2 := m_doesAsk_rw S i
  unfold m_rd
  repeat' split
  · rw [mset_ne _ _ (by decide), r1 10 (by decide)]
    exact ha p hp
  · exact ha p hp
  · exact ha p hp
  · rw [mset_at]
    split
    · rw [r2 0 (by decide), h0]
      exact Or.inr ⟨t, by omega, rfl⟩
    · rw [r2 10 (by decide)]
      exact ha p hp
  · rw [r2 10 (by decide)]
    exact ha p hp
section X11
variable {D : va_G} {dA : Nat → ClassId} {t0 mi : Nat} {S : yS} {lf mc : Nat → Int32} {cap : Nat → Nat} {B : Nat → Nat → Nat} {N : Nat → Nat}
variable {t : Nat}
set_option maxHeartbeats 4000000 in
set_option maxRecDepth 100000 in
theorem xc_changeAllLights (v : Int32) (hv : v ≠ 1) (hlf : lf = S 5) (hG : mG S (N 0) t) (hB : mB S (N 0) (N 1) (N 2) (N 4) t) (h : yH) (hR : RX dA t0 (S) lf mc cap B N h) : yM (yZ t0 mi D dA) D yX8_changeAllLights cX8_changeAllLights 3 none 4 0 0 [.ref (B 0 0), .int v] h (fun r h' => r = none ∧ RX dA t0 (m_allL v (N 0) 0 S) (m_allL v (N 0) 0 S 5) mc cap B N h') := by
  refine yM_of (yZ_ok t0 mi D dA) (by decide) rfl (Nat.le_of_ble_eq_true rfl) ?_
  intro p l e s m args below meth c A C hr hin
  show yW p l e (yR 4 0 0) s m args below meth c 3 D A 0 0 _ 0 [some (.ref (B 0 0)), some (.int v), none] [] h
  subst hlf
  refine yr_iconst 1 C (0) dX8_changeAllLights_0 rfl rfl ?_
  refine yr_istore2 2 C dX8_changeAllLights_1 (by decide) rfl ?_
  have loop2 : ∀ (j i : Nat) (X : yS), i + j = N 0 → mB X (N 0) (N 1) (N 2) (N 4) t → mG X (N 0) t → m_allL v j i X = m_allL v (N 0) 0 S → ∀ h : yH, RX dA t0 (X) (X 5) mc cap B N h → yW p l e (yR 4 0 0) s m args below meth c 3 D A 0 0 (yF D A (fun r h' => r = none ∧ RX dA t0 (m_allL v (N 0) 0 S) (m_allL v (N 0) 0 S 5) mc cap B N h') below args s 0 0) 2 [some (.ref (B 0 0)), some (.int v), some (.int (nI i))] [] h := by
    intro j
    induction j with
    | zero =>
      intro i X hij hX hGX he h hR
      have n0 : X 1 0 = nI (N 0) ∧ N 0 ≤ 8 := hX 0
      have n1 : X 17 0 = nI (N 1) ∧ N 1 ≤ 6 := hX 1
      have n4 : X 29 0 = nI (N 4) ∧ N 4 ≤ 6 := hX 2
      have k3 : X 0 0 = nI t ∧ t < 2 ^ 20 ∧ N 2 ≤ 12 := hX 3
      refine yr_iload_n 3 C dX8_changeAllLights_2 rfl rfl ?_
      refine yr_aload_n 4 C dX8_changeAllLights_3 rfl rfl rfl ?_
      refine yr_get 7 C dX8_changeAllLights_4 fl_X8_10 (rx0 hR) rfl rfl ?_
      refine yr_V0v 10 C (jl_size (show 0 < 5 by decide) _ hR) dX8_changeAllLights_7 mt_Jx4a65c_size_8abf5 mv_Jx4a65c_size_8abf5 ml_X8_75 (rx1 hR (show 0 < 5 by decide)) rfl (Nat.le_of_ble_eq_true rfl) (Nat.le_of_ble_eq_true rfl) (Nat.le_of_ble_eq_true rfl) (Nat.le_of_ble_eq_true rfl) (Nat.le_of_ble_eq_true rfl) rfl (fun h e => ?_)
      subst e
      refine yr_icmp_ge 39 13 C  dX8_changeAllLights_10 (by decide) rfl (fun c10 => ?_) (fun c10 => ?_)
      rotate_left
      · exact absurd (nI_le (by omega) (by omega)) c10
      refine yr_vret C dX8_changeAllLights_39 hr (Nat.le_of_ble_eq_true rfl) (Nat.le_of_ble_eq_true rfl) ?_
      have he2 : X = m_allL v (N 0) 0 S := he
      rw [he2] at hR
      exact ⟨rfl, hR⟩
    | succ j ih =>
      intro i X hij hX hGX he h hR
      have n0 : X 1 0 = nI (N 0) ∧ N 0 ≤ 8 := hX 0
      have n1 : X 17 0 = nI (N 1) ∧ N 1 ≤ 6 := hX 1
      have n4 : X 29 0 = nI (N 4) ∧ N 4 ≤ 6 := hX 2
      have k3 : X 0 0 = nI t ∧ t < 2 ^ 20 ∧ N 2 ≤ 12 := hX 3
      refine yr_iload_n 3 C dX8_changeAllLights_2 rfl rfl ?_
      refine yr_aload_n 4 C dX8_changeAllLights_3 rfl rfl rfl ?_
      refine yr_get 7 C dX8_changeAllLights_4 fl_X8_10 (rx0 hR) rfl rfl ?_
      refine yr_V0v 10 C (jl_size (show 0 < 5 by decide) _ hR) dX8_changeAllLights_7 mt_Jx4a65c_size_8abf5 mv_Jx4a65c_size_8abf5 ml_X8_75 (rx1 hR (show 0 < 5 by decide)) rfl (Nat.le_of_ble_eq_true rfl) (Nat.le_of_ble_eq_true rfl) (Nat.le_of_ble_eq_true rfl) (Nat.le_of_ble_eq_true rfl) (Nat.le_of_ble_eq_true rfl) rfl (fun h e => ?_)
      subst e
      refine yr_icmp_ge 39 13 C  dX8_changeAllLights_10 (by decide) rfl (fun c10 => ?_) (fun c10 => ?_)
      · exact absurd c10 (nI_ge (by omega) (by omega))
      refine yr_aload_n 14 C dX8_changeAllLights_13 rfl rfl rfl ?_
      refine yr_aload_n 15 C dX8_changeAllLights_14 rfl rfl rfl ?_
      refine yr_get 18 C dX8_changeAllLights_15 fl_X8_10 (rx0 hR) rfl rfl ?_
      refine yr_iload_n 19 C dX8_changeAllLights_18 rfl rfl ?_
      refine yr_V1v 22 C (jl_get (show 0 < 5 by decide) (j := i) (by omega) _ hR) dX8_changeAllLights_19 mt_Jx4a65c_get_915e3 mv_Jx4a65c_get_915e3 ml_X8_99 (rx1 hR (show 0 < 5 by decide)) rfl (Nat.le_of_ble_eq_true rfl) (Nat.le_of_ble_eq_true rfl) (Nat.le_of_ble_eq_true rfl) (Nat.le_of_ble_eq_true rfl) (Nat.le_of_ble_eq_true rfl) rfl (fun h e => ?_)
      subst e
      rw [show xkd 0 = 3 from rfl]
      refine yr_cast 25 C dX8_changeAllLights_22 (rx3 hR (by omega)) rfl cl_X8_79 rfl ?_
      refine yr_iload_n 26 C dX8_changeAllLights_25 rfl rfl ?_
      refine yr_aload_n 27 C dX8_changeAllLights_26 rfl rfl rfl ?_
      refine yr_get 30 C dX8_changeAllLights_27 fl_X8_49 (rx0 hR) rfl rfl ?_
      rw [k3.1]
      refine yr_V3u 33 C (xc_changeLight i (by omega) v rfl (hGX i (by omega)) hX _ hR) dX8_changeAllLights_30 mt_X8_changeLight mv_X8_changeLight ml_X8_356 (rx0 hR) rfl (Nat.le_of_ble_eq_true rfl) (Nat.le_of_ble_eq_true rfl) (Nat.le_of_ble_eq_true rfl) (Nat.le_of_ble_eq_true rfl) (Nat.le_of_ble_eq_true rfl) rfl (fun h hR => ?_)
      refine yr_iinc2 36 C (1) dX8_changeAllLights_33 rfl (by decide) rfl ?_
      rw [nI_1]
      refine yr_goto 2 C dX8_changeAllLights_36 (by decide) ?_
      exact ih (i + 1) _ (by omega) (mB_fr hX (m_change_fr X i v)) (mG_change hGX hv) he h hR
  exact loop2 (N 0) 0 S (by omega) hB hG rfl h hR
set_option maxHeartbeats 4000000 in
set_option maxRecDepth 100000 in
theorem xc_setEnd (z : Nat) (hz : z < N 0) (u : Int32) (hB : mB S (N 0) (N 1) (N 2) (N 4) t) (h : yH) (hR : RX dA t0 (S) lf mc cap B N h) : yM (yZ t0 mi D dA) D yX8_setEnd cX8_setEnd 6 none 3 0 0 [.ref (B 0 0), .ref (B 3 z), .int u] h (fun r h' => r = none ∧ RX dA t0 (m_endsIn S (N 0) z u) lf mc cap B N h') := by
  refine yM_of (yZ_ok t0 mi D dA) (by decide) rfl (Nat.le_of_ble_eq_true rfl) ?_
  intro p l e s m args below meth c A C hr hin
  show yW p l e (yR 3 0 0) s m args below meth c 6 D A 0 0 _ 0 [some (.ref (B 0 0)), some (.ref (B 3 z)), some (.int u), none, none, none] [] h
  have n0 : S 1 0 = nI (N 0) ∧ N 0 ≤ 8 := hB 0
  have n1 : S 17 0 = nI (N 1) ∧ N 1 ≤ 6 := hB 1
  have n4 : S 29 0 = nI (N 4) ∧ N 4 ≤ 6 := hB 2
  have k3 : S 0 0 = nI t ∧ t < 2 ^ 20 ∧ N 2 ≤ 12 := hB 3
  refine yr_aload_n 1 C dX8_setEnd_0 rfl rfl rfl ?_
  refine yr_iload_n 2 C dX8_setEnd_1 rfl rfl ?_
  refine xx_put 5 C dX8_setEnd_2 fp_X8_235 (rx3 hR hz) (Nat.le_of_ble_eq_true rfl) rfl rfl (ru3_9 hR hz _) rfl (fun h hR => ?_)
  refine yr_iconst 6 C (0) dX8_setEnd_5 rfl rfl ?_
  refine yr_istore3 7 C dX8_setEnd_6 (by decide) rfl ?_
  have loop7 : ∀ (j i : Nat) (X : yS), i + j = N 0 → mB X (N 0) (N 1) (N 2) (N 4) t → m_endL z u j i X = m_endsIn S (N 0) z u → ∀ h : yH, RX dA t0 (X) lf mc cap B N h → yW p l e (yR 3 0 0) s m args below meth c 6 D A 0 0 (yF D A (fun r h' => r = none ∧ RX dA t0 (m_endsIn S (N 0) z u) lf mc cap B N h') below args s 0 0) 7 [some (.ref (B 0 0)), some (.ref (B 3 z)), some (.int u), some (.int (nI i)), none, none] [] h := by
    intro j
    induction j with
    | zero =>
      intro i X hij hX he h hR
      have n0 : X 1 0 = nI (N 0) ∧ N 0 ≤ 8 := hX 0
      have n1 : X 17 0 = nI (N 1) ∧ N 1 ≤ 6 := hX 1
      have n4 : X 29 0 = nI (N 4) ∧ N 4 ≤ 6 := hX 2
      have k3 : X 0 0 = nI t ∧ t < 2 ^ 20 ∧ N 2 ≤ 12 := hX 3
      refine yr_iload_n 8 C dX8_setEnd_7 rfl rfl ?_
      refine yr_aload_n 9 C dX8_setEnd_8 rfl rfl rfl ?_
      refine yr_get 12 C dX8_setEnd_9 fl_X8_10 (rx0 hR) rfl rfl ?_
      refine yr_V0v 15 C (jl_size (show 0 < 5 by decide) _ hR) dX8_setEnd_12 mt_Jx4a65c_size_8abf5 mv_Jx4a65c_size_8abf5 ml_X8_75 (rx1 hR (show 0 < 5 by decide)) rfl (Nat.le_of_ble_eq_true rfl) (Nat.le_of_ble_eq_true rfl) (Nat.le_of_ble_eq_true rfl) (Nat.le_of_ble_eq_true rfl) (Nat.le_of_ble_eq_true rfl) rfl (fun h e => ?_)
      subst e
      refine yr_icmp_ge 69 18 C  dX8_setEnd_15 (by decide) rfl (fun c15 => ?_) (fun c15 => ?_)
      rotate_left
      · exact absurd (nI_le (by omega) (by omega)) c15
      refine yr_vret C dX8_setEnd_69 hr (Nat.le_of_ble_eq_true rfl) (Nat.le_of_ble_eq_true rfl) ?_
      have he2 : X = m_endsIn S (N 0) z u := he
      rw [he2] at hR
      exact ⟨rfl, hR⟩
    | succ j ih =>
      intro i X hij hX he h hR
      have n0 : X 1 0 = nI (N 0) ∧ N 0 ≤ 8 := hX 0
      have n1 : X 17 0 = nI (N 1) ∧ N 1 ≤ 6 := hX 1
      have n4 : X 29 0 = nI (N 4) ∧ N 4 ≤ 6 := hX 2
      have k3 : X 0 0 = nI t ∧ t < 2 ^ 20 ∧ N 2 ≤ 12 := hX 3
      refine yr_iload_n 8 C dX8_setEnd_7 rfl rfl ?_
      refine yr_aload_n 9 C dX8_setEnd_8 rfl rfl rfl ?_
      refine yr_get 12 C dX8_setEnd_9 fl_X8_10 (rx0 hR) rfl rfl ?_
      refine yr_V0v 15 C (jl_size (show 0 < 5 by decide) _ hR) dX8_setEnd_12 mt_Jx4a65c_size_8abf5 mv_Jx4a65c_size_8abf5 ml_X8_75 (rx1 hR (show 0 < 5 by decide)) rfl (Nat.le_of_ble_eq_true rfl) (Nat.le_of_ble_eq_true rfl) (Nat.le_of_ble_eq_true rfl) (Nat.le_of_ble_eq_true rfl) (Nat.le_of_ble_eq_true rfl) rfl (fun h e => ?_)
      subst e
      refine yr_icmp_ge 69 18 C  dX8_setEnd_15 (by decide) rfl (fun c15 => ?_) (fun c15 => ?_)
      · exact absurd c15 (nI_ge (by omega) (by omega))
      refine yr_aload_n 19 C dX8_setEnd_18 rfl rfl rfl ?_
      refine yr_get 22 C dX8_setEnd_19 fl_X8_10 (rx0 hR) rfl rfl ?_
      refine yr_iload_n 23 C dX8_setEnd_22 rfl rfl ?_
      refine yr_V1v 26 C (jl_get (show 0 < 5 by decide) (j := i) (by omega) _ hR) dX8_setEnd_23 mt_Jx4a65c_get_915e3 mv_Jx4a65c_get_915e3 ml_X8_99 (rx1 hR (show 0 < 5 by decide)) rfl (Nat.le_of_ble_eq_true rfl) (Nat.le_of_ble_eq_true rfl) (Nat.le_of_ble_eq_true rfl) (Nat.le_of_ble_eq_true rfl) (Nat.le_of_ble_eq_true rfl) rfl (fun h e => ?_)
      subst e
      rw [show xkd 0 = 3 from rfl]
      refine yr_cast 29 C dX8_setEnd_26 (rx3 hR (by omega)) rfl cl_X8_79 rfl ?_
      refine yr_astore4 31 C dX8_setEnd_29 rfl (by decide) rfl ?_
      refine yr_aload_n 32 C dX8_setEnd_31 rfl rfl rfl ?_
      refine yr_aload 34 C dX8_setEnd_32 rfl rfl rfl ?_
      refine yr_V1v 37 C (xc_clearingTo z i hz (by omega) n0.2 _ hR) dX8_setEnd_34 mt_X6_clearingTo mv_X6_clearingTo ml_X8_363 (rx3 hR hz) rfl (Nat.le_of_ble_eq_true rfl) (Nat.le_of_ble_eq_true rfl) (Nat.le_of_ble_eq_true rfl) (Nat.le_of_ble_eq_true rfl) (Nat.le_of_ble_eq_true rfl) rfl (fun h hR => ?_)
      refine yr_istore5 39 C dX8_setEnd_37 (by decide) rfl ?_
      refine yr_iload 41 C dX8_setEnd_39 rfl rfl ?_
      refine yr_bipush 43 C (-5) dX8_setEnd_41 rfl rfl ?_
      refine yr_icmp_eq 63 46 C  dX8_setEnd_43 (by decide) rfl (fun c43 => ?_) (fun c43 => ?_)
      · refine yr_iinc3 66 C (1) dX8_setEnd_63 rfl (by decide) rfl ?_
        rw [nI_1]
        refine yr_goto 7 C dX8_setEnd_66 (by decide) ?_
        refine yr_forget4 (yr_forget5 ?_)
        exact ih (i + 1) (m_free X z i u) (by omega) (mB_fr hX (mFr_rw (m_free_rw X z i u) rfl)) he h (by rw [m_free_x, if_pos c43]; exact hR)
      · refine yr_aload 48 C dX8_setEnd_46 rfl rfl rfl ?_
        refine yr_aload 50 C dX8_setEnd_48 rfl rfl rfl ?_
        refine yr_get 53 C dX8_setEnd_50 fl_X8_238 (rx3 hR (by omega)) rfl rfl ?_
        refine yr_iload_n 54 C dX8_setEnd_53 rfl rfl ?_
        refine yr_iload 56 C dX8_setEnd_54 rfl rfl ?_
        refine yr_iadd 57 C dX8_setEnd_56 rfl ?_
        refine yr_S2v 60 C (jc_max _ _ _) dX8_setEnd_57 mt_J9_max_7cf53 ms_J9_max_7cf53 ml_X8_253 (Nat.le_of_ble_eq_true rfl) (Nat.le_of_ble_eq_true rfl) (Nat.le_of_ble_eq_true rfl) (Nat.le_of_ble_eq_true rfl) (Nat.le_of_ble_eq_true rfl) rfl (fun h e => ?_)
        subst e
        refine xx_put 63 C dX8_setEnd_60 fp_X8_238 (rx3 hR (by omega)) (Nat.le_of_ble_eq_true rfl) rfl rfl (ru3_10 hR (by omega) _) rfl (fun h hR => ?_)
        refine yr_iinc3 66 C (1) dX8_setEnd_63 rfl (by decide) rfl ?_
        rw [nI_1]
        refine yr_goto 7 C dX8_setEnd_66 (by decide) ?_
        refine yr_forget4 (yr_forget5 ?_)
        exact ih (i + 1) (m_free X z i u) (by omega) (mB_fr hX (mFr_rw (m_free_rw X z i u) rfl)) he h (by rw [m_free_x, if_neg c43]; exact hR)
  exact loop7 (N 0) 0 _ (by omega) (mB_fr hB (mFr_set S z u (show mFk 8 = true from rfl))) rfl h hR
theorem mG_am {S : yS} {np t i : Nat} (h : mG S np t) : mG (m_am S i) np t := by
  unfold m_am
  repeat' split
  all_goals first | exact h | exact mG_change h (by decide)
set_option maxHeartbeats 4000000 in
set_option maxRecDepth 100000 in
theorem xc_endAmbers (hlf : lf = S 5) (hG : mG S (N 0) t) (hB : mB S (N 0) (N 1) (N 2) (N 4) t) (h : yH) (hR : RX dA t0 (S) lf mc cap B N h) : yM (yZ t0 mi D dA) D yX8_endAmbers cX8_endAmbers 4 none 4 0 0 [.ref (B 0 0), .int (nI t)] h (fun r h' => r = none ∧ RX dA t0 (m_amL (N 0) 0 S) (m_amL (N 0) 0 S 5) mc cap B N h') := by
  refine yM_of (yZ_ok t0 mi D dA) (by decide) rfl (Nat.le_of_ble_eq_true rfl) ?_
  intro p l e s m args below meth c A C hr hin
  show yW p l e (yR 4 0 0) s m args below meth c 4 D A 0 0 _ 0 [some (.ref (B 0 0)), some (.int (nI t)), none, none] [] h
  subst hlf
  refine yr_iconst 1 C (0) dX8_endAmbers_0 rfl rfl ?_
  refine yr_istore2 2 C dX8_endAmbers_1 (by decide) rfl ?_
  have loop2 : ∀ (j i : Nat) (X : yS), i + j = N 0 → mB X (N 0) (N 1) (N 2) (N 4) t → mG X (N 0) t → m_amL j i X = m_amL (N 0) 0 S → ∀ h : yH, RX dA t0 (X) (X 5) mc cap B N h → yW p l e (yR 4 0 0) s m args below meth c 4 D A 0 0 (yF D A (fun r h' => r = none ∧ RX dA t0 (m_amL (N 0) 0 S) (m_amL (N 0) 0 S 5) mc cap B N h') below args s 0 0) 2 [some (.ref (B 0 0)), some (.int (nI t)), some (.int (nI i)), none] [] h := by
    intro j
    induction j with
    | zero =>
      intro i X hij hX hGX he h hR
      have n0 : X 1 0 = nI (N 0) ∧ N 0 ≤ 8 := hX 0
      have n1 : X 17 0 = nI (N 1) ∧ N 1 ≤ 6 := hX 1
      have n4 : X 29 0 = nI (N 4) ∧ N 4 ≤ 6 := hX 2
      have k3 : X 0 0 = nI t ∧ t < 2 ^ 20 ∧ N 2 ≤ 12 := hX 3
      refine yr_iload_n 3 C dX8_endAmbers_2 rfl rfl ?_
      refine yr_aload_n 4 C dX8_endAmbers_3 rfl rfl rfl ?_
      refine yr_get 7 C dX8_endAmbers_4 fl_X8_10 (rx0 hR) rfl rfl ?_
      refine yr_V0v 10 C (jl_size (show 0 < 5 by decide) _ hR) dX8_endAmbers_7 mt_Jx4a65c_size_8abf5 mv_Jx4a65c_size_8abf5 ml_X8_75 (rx1 hR (show 0 < 5 by decide)) rfl (Nat.le_of_ble_eq_true rfl) (Nat.le_of_ble_eq_true rfl) (Nat.le_of_ble_eq_true rfl) (Nat.le_of_ble_eq_true rfl) (Nat.le_of_ble_eq_true rfl) rfl (fun h e => ?_)
      subst e
      refine yr_icmp_ge 54 13 C  dX8_endAmbers_10 (by decide) rfl (fun c10 => ?_) (fun c10 => ?_)
      rotate_left
      · exact absurd (nI_le (by omega) (by omega)) c10
      refine yr_vret C dX8_endAmbers_54 hr (Nat.le_of_ble_eq_true rfl) (Nat.le_of_ble_eq_true rfl) ?_
      have he2 : X = m_amL (N 0) 0 S := he
      rw [he2] at hR
      exact ⟨rfl, hR⟩
    | succ j ih =>
      intro i X hij hX hGX he h hR
      have n0 : X 1 0 = nI (N 0) ∧ N 0 ≤ 8 := hX 0
      have n1 : X 17 0 = nI (N 1) ∧ N 1 ≤ 6 := hX 1
      have n4 : X 29 0 = nI (N 4) ∧ N 4 ≤ 6 := hX 2
      have k3 : X 0 0 = nI t ∧ t < 2 ^ 20 ∧ N 2 ≤ 12 := hX 3
      refine yr_iload_n 3 C dX8_endAmbers_2 rfl rfl ?_
      refine yr_aload_n 4 C dX8_endAmbers_3 rfl rfl rfl ?_
      refine yr_get 7 C dX8_endAmbers_4 fl_X8_10 (rx0 hR) rfl rfl ?_
      refine yr_V0v 10 C (jl_size (show 0 < 5 by decide) _ hR) dX8_endAmbers_7 mt_Jx4a65c_size_8abf5 mv_Jx4a65c_size_8abf5 ml_X8_75 (rx1 hR (show 0 < 5 by decide)) rfl (Nat.le_of_ble_eq_true rfl) (Nat.le_of_ble_eq_true rfl) (Nat.le_of_ble_eq_true rfl) (Nat.le_of_ble_eq_true rfl) (Nat.le_of_ble_eq_true rfl) rfl (fun h e => ?_)
      subst e
      refine yr_icmp_ge 54 13 C  dX8_endAmbers_10 (by decide) rfl (fun c10 => ?_) (fun c10 => ?_)
      · exact absurd c10 (nI_ge (by omega) (by omega))
      refine yr_aload_n 14 C dX8_endAmbers_13 rfl rfl rfl ?_
      refine yr_get 17 C dX8_endAmbers_14 fl_X8_10 (rx0 hR) rfl rfl ?_
      refine yr_iload_n 18 C dX8_endAmbers_17 rfl rfl ?_
      refine yr_V1v 21 C (jl_get (show 0 < 5 by decide) (j := i) (by omega) _ hR) dX8_endAmbers_18 mt_Jx4a65c_get_915e3 mv_Jx4a65c_get_915e3 ml_X8_99 (rx1 hR (show 0 < 5 by decide)) rfl (Nat.le_of_ble_eq_true rfl) (Nat.le_of_ble_eq_true rfl) (Nat.le_of_ble_eq_true rfl) (Nat.le_of_ble_eq_true rfl) (Nat.le_of_ble_eq_true rfl) rfl (fun h e => ?_)
      subst e
      rw [show xkd 0 = 3 from rfl]
      refine yr_cast 24 C dX8_endAmbers_21 (rx3 hR (by omega)) rfl cl_X8_79 rfl ?_
      refine yr_astore3 25 C dX8_endAmbers_24 rfl (by decide) rfl ?_
      refine yr_aload_n 26 C dX8_endAmbers_25 rfl rfl rfl ?_
      refine yr_get 29 C dX8_endAmbers_26 fl_X8_169 (rx3 hR (by omega)) rfl rfl ?_
      refine yr_iconst 30 C (2) dX8_endAmbers_29 rfl rfl ?_
      refine yr_icmp_ne 48 33 C  dX8_endAmbers_30 (by decide) rfl (fun c30 => ?_) (fun c30 => ?_)
      · refine yr_iinc2 51 C (1) dX8_endAmbers_48 rfl (by decide) rfl ?_
        rw [nI_1]
        refine yr_goto 2 C dX8_endAmbers_51 (by decide) ?_
        refine yr_forget3 ?_
        exact ih (i + 1) (m_am X i) (by omega) (mB_fr hX (mFr_rw (m_am_rw X i) rfl)) (mG_am hGX) he h (by unfold m_am; rw [if_neg c30]; exact hR)
      · refine yr_aload_n 34 C dX8_endAmbers_33 rfl rfl rfl ?_
        refine yr_get 37 C dX8_endAmbers_34 fl_X8_235 (rx3 hR (by omega)) rfl rfl ?_
        refine yr_iload_n 38 C dX8_endAmbers_37 rfl rfl ?_
        refine yr_icmp_gt 48 41 C  dX8_endAmbers_38 (by decide) rfl (fun c38 => ?_) (fun c38 => ?_)
        · refine yr_iinc2 51 C (1) dX8_endAmbers_48 rfl (by decide) rfl ?_
          rw [nI_1]
          refine yr_goto 2 C dX8_endAmbers_51 (by decide) ?_
          refine yr_forget3 ?_
          exact ih (i + 1) (m_am X i) (by omega) (mB_fr hX (mFr_rw (m_am_rw X i) rfl)) (mG_am hGX) he h (by unfold m_am; rw [if_pos c30, k3.1, if_pos c38]; exact hR)
        · refine yr_aload_n 42 C dX8_endAmbers_41 rfl rfl rfl ?_
          refine yr_aload_n 43 C dX8_endAmbers_42 rfl rfl rfl ?_
          refine yr_iconst 44 C (0) dX8_endAmbers_43 rfl rfl ?_
          refine yr_iload_n 45 C dX8_endAmbers_44 rfl rfl ?_
          refine yr_V3u 48 C (xc_changeLight i (by omega) 0 rfl (hGX i (by omega)) hX _ hR) dX8_endAmbers_45 mt_X8_changeLight mv_X8_changeLight ml_X8_356 (rx0 hR) rfl (Nat.le_of_ble_eq_true rfl) (Nat.le_of_ble_eq_true rfl) (Nat.le_of_ble_eq_true rfl) (Nat.le_of_ble_eq_true rfl) (Nat.le_of_ble_eq_true rfl) rfl (fun h hR => ?_)
          refine yr_iinc2 51 C (1) dX8_endAmbers_48 rfl (by decide) rfl ?_
          rw [nI_1]
          refine yr_goto 2 C dX8_endAmbers_51 (by decide) ?_
          refine yr_forget3 ?_
          exact ih (i + 1) (m_am X i) (by omega) (mB_fr hX (mFr_rw (m_am_rw X i) rfl)) (mG_am hGX) he h (by unfold m_am; rw [if_pos c30, k3.1, if_neg c38]; exact hR)
  exact loop2 (N 0) 0 S (by omega) hB hG rfl h hR
set_option maxHeartbeats 4000000 in
set_option maxRecDepth 100000 in
theorem xc_keepLights  (hB : mB S (N 0) (N 1) (N 2) (N 4) t) (h : yH) (hR : RX dA t0 (S) lf mc cap B N h) : yM (yZ t0 mi D dA) D yX8_keepLights cX8_keepLights 3 none 3 0 0 [.ref (B 0 0), .int (nI t)] h (fun r h' => r = none ∧ RX dA t0 (m_kpL t (N 0) 0 S) lf mc cap B N h') := by
  refine yM_of (yZ_ok t0 mi D dA) (by decide) rfl (Nat.le_of_ble_eq_true rfl) ?_
  intro p l e s m args below meth c A C hr hin
  show yW p l e (yR 3 0 0) s m args below meth c 3 D A 0 0 _ 0 [some (.ref (B 0 0)), some (.int (nI t)), none] [] h
  refine yr_iconst 1 C (0) dX8_keepLights_0 rfl rfl ?_
  refine yr_istore2 2 C dX8_keepLights_1 (by decide) rfl ?_
  have loop2 : ∀ (j i : Nat) (X : yS), i + j = N 0 → mB X (N 0) (N 1) (N 2) (N 4) t → m_kpL t j i X = m_kpL t (N 0) 0 S → ∀ h : yH, RX dA t0 (X) lf mc cap B N h → yW p l e (yR 3 0 0) s m args below meth c 3 D A 0 0 (yF D A (fun r h' => r = none ∧ RX dA t0 (m_kpL t (N 0) 0 S) lf mc cap B N h') below args s 0 0) 2 [some (.ref (B 0 0)), some (.int (nI t)), some (.int (nI i))] [] h := by
    intro j
    induction j with
    | zero =>
      intro i X hij hX he h hR
      have n0 : X 1 0 = nI (N 0) ∧ N 0 ≤ 8 := hX 0
      have n1 : X 17 0 = nI (N 1) ∧ N 1 ≤ 6 := hX 1
      have n4 : X 29 0 = nI (N 4) ∧ N 4 ≤ 6 := hX 2
      have k3 : X 0 0 = nI t ∧ t < 2 ^ 20 ∧ N 2 ≤ 12 := hX 3
      refine yr_iload_n 3 C dX8_keepLights_2 rfl rfl ?_
      refine yr_aload_n 4 C dX8_keepLights_3 rfl rfl rfl ?_
      refine yr_get 7 C dX8_keepLights_4 fl_X8_10 (rx0 hR) rfl rfl ?_
      refine yr_V0v 10 C (jl_size (show 0 < 5 by decide) _ hR) dX8_keepLights_7 mt_Jx4a65c_size_8abf5 mv_Jx4a65c_size_8abf5 ml_X8_75 (rx1 hR (show 0 < 5 by decide)) rfl (Nat.le_of_ble_eq_true rfl) (Nat.le_of_ble_eq_true rfl) (Nat.le_of_ble_eq_true rfl) (Nat.le_of_ble_eq_true rfl) (Nat.le_of_ble_eq_true rfl) rfl (fun h e => ?_)
      subst e
      refine yr_icmp_ge 34 13 C  dX8_keepLights_10 (by decide) rfl (fun c10 => ?_) (fun c10 => ?_)
      rotate_left
      · exact absurd (nI_le (by omega) (by omega)) c10
      refine yr_vret C dX8_keepLights_34 hr (Nat.le_of_ble_eq_true rfl) (Nat.le_of_ble_eq_true rfl) ?_
      have he2 : X = m_kpL t (N 0) 0 S := he
      rw [he2] at hR
      exact ⟨rfl, hR⟩
    | succ j ih =>
      intro i X hij hX he h hR
      have n0 : X 1 0 = nI (N 0) ∧ N 0 ≤ 8 := hX 0
      have n1 : X 17 0 = nI (N 1) ∧ N 1 ≤ 6 := hX 1
      have n4 : X 29 0 = nI (N 4) ∧ N 4 ≤ 6 := hX 2
      have k3 : X 0 0 = nI t ∧ t < 2 ^ 20 ∧ N 2 ≤ 12 := hX 3
      refine yr_iload_n 3 C dX8_keepLights_2 rfl rfl ?_
      refine yr_aload_n 4 C dX8_keepLights_3 rfl rfl rfl ?_
      refine yr_get 7 C dX8_keepLights_4 fl_X8_10 (rx0 hR) rfl rfl ?_
      refine yr_V0v 10 C (jl_size (show 0 < 5 by decide) _ hR) dX8_keepLights_7 mt_Jx4a65c_size_8abf5 mv_Jx4a65c_size_8abf5 ml_X8_75 (rx1 hR (show 0 < 5 by decide)) rfl (Nat.le_of_ble_eq_true rfl) (Nat.le_of_ble_eq_true rfl) (Nat.le_of_ble_eq_true rfl) (Nat.le_of_ble_eq_true rfl) (Nat.le_of_ble_eq_true rfl) rfl (fun h e => ?_)
      subst e
      refine yr_icmp_ge 34 13 C  dX8_keepLights_10 (by decide) rfl (fun c10 => ?_) (fun c10 => ?_)
      · exact absurd c10 (nI_ge (by omega) (by omega))
      refine yr_aload_n 14 C dX8_keepLights_13 rfl rfl rfl ?_
      refine yr_get 17 C dX8_keepLights_14 fl_X8_10 (rx0 hR) rfl rfl ?_
      refine yr_iload_n 18 C dX8_keepLights_17 rfl rfl ?_
      refine yr_V1v 21 C (jl_get (show 0 < 5 by decide) (j := i) (by omega) _ hR) dX8_keepLights_18 mt_Jx4a65c_get_915e3 mv_Jx4a65c_get_915e3 ml_X8_99 (rx1 hR (show 0 < 5 by decide)) rfl (Nat.le_of_ble_eq_true rfl) (Nat.le_of_ble_eq_true rfl) (Nat.le_of_ble_eq_true rfl) (Nat.le_of_ble_eq_true rfl) (Nat.le_of_ble_eq_true rfl) rfl (fun h e => ?_)
      subst e
      rw [show xkd 0 = 3 from rfl]
      refine yr_cast 24 C dX8_keepLights_21 (rx3 hR (by omega)) rfl cl_X8_79 rfl ?_
      refine yr_iload_n 25 C dX8_keepLights_24 rfl rfl ?_
      refine yr_V1u 28 C (xc_keepLight i t (by omega) n0.2 k3.2.1 _ hR) dX8_keepLights_25 mt_X6_keepLight mv_X6_keepLight ml_X8_317 (rx3 hR (by omega)) rfl (Nat.le_of_ble_eq_true rfl) (Nat.le_of_ble_eq_true rfl) (Nat.le_of_ble_eq_true rfl) (Nat.le_of_ble_eq_true rfl) (Nat.le_of_ble_eq_true rfl) rfl (fun h hR => ?_)
      refine yr_iinc2 31 C (1) dX8_keepLights_28 rfl (by decide) rfl ?_
      rw [nI_1]
      refine yr_goto 2 C dX8_keepLights_31 (by decide) ?_
      exact ih (i + 1) _ (by omega) (mB_fr hX (mFr_set X _ _ (show mFk 51 = true from rfl))) he h hR
  exact loop2 (N 0) 0 S (by omega) hB rfl h hR
set_option maxHeartbeats 4000000 in
set_option maxRecDepth 100000 in
theorem xc_differIn (k : Nat) (hk : k < N 4) (hB : mB S (N 0) (N 1) (N 2) (N 4) t) (h : yH) (hR : RX dA t0 (S) lf mc cap B N h) : yM (yZ t0 mi D dA) D yX5_differIn cX5_differIn 2 (some .boolean) 2 0 0 [.ref (B 12 k), .int (nI t)] h (fun r h' => r = some (.int (bI (m_diff S k))) ∧ RX dA t0 (S) lf mc cap B N h') := by
  refine yM_of (yZ_ok t0 mi D dA) (by decide) rfl (Nat.le_of_ble_eq_true rfl) ?_
  intro p l e s m args below meth c A C hr hin
  show yW p l e (yR 2 0 0) s m args below meth c 2 D A 0 0 _ 0 [some (.ref (B 12 k)), some (.int (nI t))] [] h
  have n0 : S 1 0 = nI (N 0) ∧ N 0 ≤ 8 := hB 0
  have n1 : S 17 0 = nI (N 1) ∧ N 1 ≤ 6 := hB 1
  have n4 : S 29 0 = nI (N 4) ∧ N 4 ≤ 6 := hB 2
  have k3 : S 0 0 = nI t ∧ t < 2 ^ 20 ∧ N 2 ≤ 12 := hB 3
  obtain ⟨⟨d, hd, ed⟩, ⟨f, hf2, ef⟩⟩ := (show ∀ k, k < N 4 → (∃ d, d < N 2 ∧ S 30 k = nI d) ∧ ∃ d, d < N 2 ∧ S 31 k = nI d from hB 8) k hk
  have hd1 : ix (S 30 k) < N 2 := by rw [ed, ix_nI (by omega)]; exact hd
  have hd2 : ix (S 31 k) < N 2 := by rw [ef, ix_nI (by omega)]; exact hf2
  have q6 : ∀ d, d < N 2 → cO (S 20 d) 201 := hB 6
  refine yr_aload_n 1 C dX5_differIn_0 rfl rfl rfl ?_
  refine yr_get 4 C dX5_differIn_1 fl_X5_13 (rx12 hR hk) rfl rfl ?_
  refine yr_iload_n 5 C dX5_differIn_4 rfl rfl ?_
  refine yr_V1v 8 C (xc_reaches _ _ hd1 k3.2.1 _ hR) dX5_differIn_5 mt_X1_reaches mv_X1_reaches ml_X5_27 (hR.1 8 _ hd1) rfl (Nat.le_of_ble_eq_true rfl) (Nat.le_of_ble_eq_true rfl) (Nat.le_of_ble_eq_true rfl) (Nat.le_of_ble_eq_true rfl) (Nat.le_of_ble_eq_true rfl) rfl (fun h hR => ?_)
  refine yb_eq 22 11 C  dX5_differIn_8 (by decide) rfl (fun c8 => ?_) (fun c8 => ?_)
  · refine yr_iconst 23 C (0) dX5_differIn_22 rfl rfl ?_
    refine yr_zret C dX5_differIn_23 hr ?_ (Nat.le_of_ble_eq_true rfl) (Nat.le_of_ble_eq_true rfl) ?_
    · first | exact bI_or _ | exact Or.inl rfl | exact Or.inr rfl
    have et : ix (S 0 0) = t := by rw [k3.1]; exact ix_nI (by omega)
    refine ⟨?_, hR⟩
    unfold m_diff
    rw [et, k3.1]
    have a1 : S 20 (ix (S 30 k)) ≤ nI t := Int32.not_lt.mp (of_decide_eq_false c8)
    simp [a1, bI]
  · refine yr_aload_n 12 C dX5_differIn_11 rfl rfl rfl ?_
    refine yr_get 15 C dX5_differIn_12 fl_X5_17 (rx12 hR hk) rfl rfl ?_
    refine yr_iload_n 16 C dX5_differIn_15 rfl rfl ?_
    refine yr_V1v 19 C (xc_reaches _ _ hd2 k3.2.1 _ hR) dX5_differIn_16 mt_X1_reaches mv_X1_reaches ml_X5_27 (hR.1 8 _ hd2) rfl (Nat.le_of_ble_eq_true rfl) (Nat.le_of_ble_eq_true rfl) (Nat.le_of_ble_eq_true rfl) (Nat.le_of_ble_eq_true rfl) (Nat.le_of_ble_eq_true rfl) rfl (fun h hR => ?_)
    refine yb_ne 24 22 C  dX5_differIn_19 (by decide) rfl (fun c19 => ?_) (fun c19 => ?_)
    · have i1 : nI t < S 20 (ix (S 30 k)) := of_decide_eq_true c8
      have i2 : nI t < S 20 (ix (S 31 k)) := of_decide_eq_true c19
      refine yr_aload_n 25 C dX5_differIn_24 rfl rfl rfl ?_
      refine yr_get 28 C dX5_differIn_25 fl_X5_13 (rx12 hR hk) rfl rfl ?_
      refine yr_iload_n 29 C dX5_differIn_28 rfl rfl ?_
      refine yr_V1v 32 C (xc_passingsAt _ _ hd1 k3.2.1 (q6 _ hd1) _ hR) dX5_differIn_29 mt_X1_passingsAt mv_X1_passingsAt ml_X5_32 (hR.1 8 _ hd1) rfl (Nat.le_of_ble_eq_true rfl) (Nat.le_of_ble_eq_true rfl) (Nat.le_of_ble_eq_true rfl) (Nat.le_of_ble_eq_true rfl) (Nat.le_of_ble_eq_true rfl) rfl (fun h hR => ?_)
      rw [if_pos i1]
      refine yr_if_le 39 35 C  dX5_differIn_32 (by decide) rfl (fun c32 => ?_) (fun c32 => ?_)
      · refine yr_iconst 40 C (0) dX5_differIn_39 rfl rfl ?_
        refine yr_aload_n 41 C dX5_differIn_40 rfl rfl rfl ?_
        refine yr_get 44 C dX5_differIn_41 fl_X5_17 (rx12 hR hk) rfl rfl ?_
        refine yr_iload_n 45 C dX5_differIn_44 rfl rfl ?_
        refine yr_V1v 48 C (xc_passingsAt _ _ hd2 k3.2.1 (q6 _ hd2) _ hR) dX5_differIn_45 mt_X1_passingsAt mv_X1_passingsAt ml_X5_32 (hR.1 8 _ hd2) rfl (Nat.le_of_ble_eq_true rfl) (Nat.le_of_ble_eq_true rfl) (Nat.le_of_ble_eq_true rfl) (Nat.le_of_ble_eq_true rfl) (Nat.le_of_ble_eq_true rfl) rfl (fun h hR => ?_)
        rw [if_pos i2]
        refine yr_if_le 55 51 C  dX5_differIn_48 (by decide) rfl (fun c48 => ?_) (fun c48 => ?_)
        · refine yr_iconst 56 C (0) dX5_differIn_55 rfl rfl ?_
          refine yr_icmp_eq 63 59 C  dX5_differIn_56 (by decide) rfl (fun c56 => ?_) (fun c56 => ?_)
          rotate_left
          · exact absurd (by decide) c56
          refine yr_iconst 64 C (0) dX5_differIn_63 rfl rfl ?_
          refine yr_zret C dX5_differIn_64 hr ?_ (Nat.le_of_ble_eq_true rfl) (Nat.le_of_ble_eq_true rfl) ?_
          · first | exact bI_or _ | exact Or.inl rfl | exact Or.inr rfl
          have et : ix (S 0 0) = t := by rw [k3.1]; exact ix_nI (by omega)
          refine ⟨?_, hR⟩
          unfold m_diff
          rw [et, k3.1]
          have a1 : ¬ S 20 (ix (S 30 k)) ≤ nI t := Int32.not_le.mpr i1
          have a2 : ¬ S 20 (ix (S 31 k)) ≤ nI t := Int32.not_le.mpr i2
          simp [a1, a2, bI, c32, c48]
        · refine yr_iconst 52 C (1) dX5_differIn_51 rfl rfl ?_
          refine yr_goto 56 C dX5_differIn_52 (by decide) ?_
          refine yr_icmp_eq 63 59 C  dX5_differIn_56 (by decide) rfl (fun c56 => ?_) (fun c56 => ?_)
          · exact absurd c56 (by decide)
          refine yr_iconst 60 C (1) dX5_differIn_59 rfl rfl ?_
          refine yr_goto 64 C dX5_differIn_60 (by decide) ?_
          refine yr_zret C dX5_differIn_64 hr ?_ (Nat.le_of_ble_eq_true rfl) (Nat.le_of_ble_eq_true rfl) ?_
          · first | exact bI_or _ | exact Or.inl rfl | exact Or.inr rfl
          have et : ix (S 0 0) = t := by rw [k3.1]; exact ix_nI (by omega)
          refine ⟨?_, hR⟩
          unfold m_diff
          rw [et, k3.1]
          have a1 : ¬ S 20 (ix (S 30 k)) ≤ nI t := Int32.not_le.mpr i1
          have a2 : ¬ S 20 (ix (S 31 k)) ≤ nI t := Int32.not_le.mpr i2
          simp [a1, a2, bI, c32, c48]
      · refine yr_iconst 36 C (1) dX5_differIn_35 rfl rfl ?_
        refine yr_goto 40 C dX5_differIn_36 (by decide) ?_
        refine yr_aload_n 41 C dX5_differIn_40 rfl rfl rfl ?_
        refine yr_get 44 C dX5_differIn_41 fl_X5_17 (rx12 hR hk) rfl rfl ?_
        refine yr_iload_n 45 C dX5_differIn_44 rfl rfl ?_
        refine yr_V1v 48 C (xc_passingsAt _ _ hd2 k3.2.1 (q6 _ hd2) _ hR) dX5_differIn_45 mt_X1_passingsAt mv_X1_passingsAt ml_X5_32 (hR.1 8 _ hd2) rfl (Nat.le_of_ble_eq_true rfl) (Nat.le_of_ble_eq_true rfl) (Nat.le_of_ble_eq_true rfl) (Nat.le_of_ble_eq_true rfl) (Nat.le_of_ble_eq_true rfl) rfl (fun h hR => ?_)
        rw [if_pos i2]
        refine yr_if_le 55 51 C  dX5_differIn_48 (by decide) rfl (fun c48 => ?_) (fun c48 => ?_)
        · refine yr_iconst 56 C (0) dX5_differIn_55 rfl rfl ?_
          refine yr_icmp_eq 63 59 C  dX5_differIn_56 (by decide) rfl (fun c56 => ?_) (fun c56 => ?_)
          · exact absurd c56 (by decide)
          refine yr_iconst 60 C (1) dX5_differIn_59 rfl rfl ?_
          refine yr_goto 64 C dX5_differIn_60 (by decide) ?_
          refine yr_zret C dX5_differIn_64 hr ?_ (Nat.le_of_ble_eq_true rfl) (Nat.le_of_ble_eq_true rfl) ?_
          · first | exact bI_or _ | exact Or.inl rfl | exact Or.inr rfl
          have et : ix (S 0 0) = t := by rw [k3.1]; exact ix_nI (by omega)
          refine ⟨?_, hR⟩
          unfold m_diff
          rw [et, k3.1]
          have a1 : ¬ S 20 (ix (S 30 k)) ≤ nI t := Int32.not_le.mpr i1
          have a2 : ¬ S 20 (ix (S 31 k)) ≤ nI t := Int32.not_le.mpr i2
          simp [a1, a2, bI, c32, c48]
        · refine yr_iconst 52 C (1) dX5_differIn_51 rfl rfl ?_
          refine yr_goto 56 C dX5_differIn_52 (by decide) ?_
          refine yr_icmp_eq 63 59 C  dX5_differIn_56 (by decide) rfl (fun c56 => ?_) (fun c56 => ?_)
          rotate_left
          · exact absurd (by decide) c56
          refine yr_iconst 64 C (0) dX5_differIn_63 rfl rfl ?_
          refine yr_zret C dX5_differIn_64 hr ?_ (Nat.le_of_ble_eq_true rfl) (Nat.le_of_ble_eq_true rfl) ?_
          · first | exact bI_or _ | exact Or.inl rfl | exact Or.inr rfl
          have et : ix (S 0 0) = t := by rw [k3.1]; exact ix_nI (by omega)
          refine ⟨?_, hR⟩
          unfold m_diff
          rw [et, k3.1]
          have a1 : ¬ S 20 (ix (S 30 k)) ≤ nI t := Int32.not_le.mpr i1
          have a2 : ¬ S 20 (ix (S 31 k)) ≤ nI t := Int32.not_le.mpr i2
          simp [a1, a2, bI, c32, c48]
    · refine yr_iconst 23 C (0) dX5_differIn_22 rfl rfl ?_
      refine yr_zret C dX5_differIn_23 hr ?_ (Nat.le_of_ble_eq_true rfl) (Nat.le_of_ble_eq_true rfl) ?_
      · first | exact bI_or _ | exact Or.inl rfl | exact Or.inr rfl
      have et : ix (S 0 0) = t := by rw [k3.1]; exact ix_nI (by omega)
      refine ⟨?_, hR⟩
      unfold m_diff
      rw [et, k3.1]
      have a1 : S 20 (ix (S 31 k)) ≤ nI t := Int32.not_lt.mp (of_decide_eq_false c19)
      simp [a1, bI]
set_option maxHeartbeats 4000000 in
set_option maxRecDepth 100000 in
theorem xc_lookAt (k : Nat) (hk : k < N 4) (hB : mB S (N 0) (N 1) (N 2) (N 4) t) (h : yH) (hR : RX dA t0 (S) lf mc cap B N h) : yM (yZ t0 mi D dA) D yX5_lookAt cX5_lookAt 2 none 3 0 0 [.ref (B 12 k), .int (nI t)] h (fun r h' => r = none ∧ RX dA t0 (m_pr S k) lf mc cap B N h') := by
  refine yM_of (yZ_ok t0 mi D dA) (by decide) rfl (Nat.le_of_ble_eq_true rfl) ?_
  intro p l e s m args below meth c A C hr hin
  show yW p l e (yR 3 0 0) s m args below meth c 2 D A 0 0 _ 0 [some (.ref (B 12 k)), some (.int (nI t))] [] h
  refine yr_aload_n 1 C dX5_lookAt_0 rfl rfl rfl ?_
  refine yr_aload_n 2 C dX5_lookAt_1 rfl rfl rfl ?_
  refine yr_iload_n 3 C dX5_lookAt_2 rfl rfl ?_
  refine yr_V1v 6 C (xc_differIn _ hk hB _ hR) dX5_lookAt_3 mt_X5_differIn mv_X5_differIn ml_X5_23 (rx12 hR hk) rfl (Nat.le_of_ble_eq_true rfl) (Nat.le_of_ble_eq_true rfl) (Nat.le_of_ble_eq_true rfl) (Nat.le_of_ble_eq_true rfl) (Nat.le_of_ble_eq_true rfl) rfl (fun h hR => ?_)
  refine yb_eq 18 9 C  dX5_lookAt_6 (by decide) rfl (fun c6 => ?_) (fun c6 => ?_)
  · refine yr_iconst 19 C (0) dX5_lookAt_18 rfl rfl ?_
    refine xx_put 22 C dX5_lookAt_19 fp_X5_7 (rx12 hR hk) (Nat.le_of_ble_eq_true rfl) rfl rfl (ru12_3 hR hk _) rfl (fun h hR => ?_)
    refine yr_vret C dX5_lookAt_22 hr (Nat.le_of_ble_eq_true rfl) (Nat.le_of_ble_eq_true rfl) ?_
    refine ⟨rfl, ?_⟩
    unfold m_pr
    simpa [c6] using hR
  · refine yr_aload_n 10 C dX5_lookAt_9 rfl rfl rfl ?_
    refine yr_get 13 C dX5_lookAt_10 fl_X5_7 (rx12 hR hk) rfl rfl ?_
    refine yr_iconst 14 C (1) dX5_lookAt_13 rfl rfl ?_
    refine yr_iadd 15 C dX5_lookAt_14 rfl ?_
    refine yr_goto 19 C dX5_lookAt_15 (by decide) ?_
    refine xx_put 22 C dX5_lookAt_19 fp_X5_7 (rx12 hR hk) (Nat.le_of_ble_eq_true rfl) rfl rfl (ru12_3 hR hk _) rfl (fun h hR => ?_)
    refine yr_vret C dX5_lookAt_22 hr (Nat.le_of_ble_eq_true rfl) (Nat.le_of_ble_eq_true rfl) ?_
    refine ⟨rfl, ?_⟩
    unfold m_pr
    simpa [c6] using hR
set_option maxHeartbeats 4000000 in
set_option maxRecDepth 100000 in
theorem xc_lookAtPairs  (hB : mB S (N 0) (N 1) (N 2) (N 4) t) (h : yH) (hR : RX dA t0 (S) lf mc cap B N h) : yM (yZ t0 mi D dA) D yX8_lookAtPairs cX8_lookAtPairs 3 none 4 0 0 [.ref (B 0 0), .int (nI t)] h (fun r h' => r = none ∧ RX dA t0 (m_prL (N 4) 0 S) lf mc cap B N h') := by
  refine yM_of (yZ_ok t0 mi D dA) (by decide) rfl (Nat.le_of_ble_eq_true rfl) ?_
  intro p l e s m args below meth c A C hr hin
  show yW p l e (yR 4 0 0) s m args below meth c 3 D A 0 0 _ 0 [some (.ref (B 0 0)), some (.int (nI t)), none] [] h
  refine yr_iconst 1 C (0) dX8_lookAtPairs_0 rfl rfl ?_
  refine yr_istore2 2 C dX8_lookAtPairs_1 (by decide) rfl ?_
  have loop2 : ∀ (j i : Nat) (X : yS), i + j = N 4 → mB X (N 0) (N 1) (N 2) (N 4) t → m_prL j i X = m_prL (N 4) 0 S → ∀ h : yH, RX dA t0 (X) lf mc cap B N h → yW p l e (yR 4 0 0) s m args below meth c 3 D A 0 0 (yF D A (fun r h' => r = none ∧ RX dA t0 (m_prL (N 4) 0 S) lf mc cap B N h') below args s 0 0) 2 [some (.ref (B 0 0)), some (.int (nI t)), some (.int (nI i))] [] h := by
    intro j
    induction j with
    | zero =>
      intro i X hij hX he h hR
      have n0 : X 1 0 = nI (N 0) ∧ N 0 ≤ 8 := hX 0
      have n1 : X 17 0 = nI (N 1) ∧ N 1 ≤ 6 := hX 1
      have n4 : X 29 0 = nI (N 4) ∧ N 4 ≤ 6 := hX 2
      have k3 : X 0 0 = nI t ∧ t < 2 ^ 20 ∧ N 2 ≤ 12 := hX 3
      refine yr_iload_n 3 C dX8_lookAtPairs_2 rfl rfl ?_
      refine yr_aload_n 4 C dX8_lookAtPairs_3 rfl rfl rfl ?_
      refine yr_get 7 C dX8_lookAtPairs_4 fl_X8_25 (rx0 hR) rfl rfl ?_
      refine yr_V0v 10 C (jl_size (show 4 < 5 by decide) _ hR) dX8_lookAtPairs_7 mt_Jx4a65c_size_8abf5 mv_Jx4a65c_size_8abf5 ml_X8_75 (rx1 hR (show 4 < 5 by decide)) rfl (Nat.le_of_ble_eq_true rfl) (Nat.le_of_ble_eq_true rfl) (Nat.le_of_ble_eq_true rfl) (Nat.le_of_ble_eq_true rfl) (Nat.le_of_ble_eq_true rfl) rfl (fun h e => ?_)
      subst e
      refine yr_icmp_ge 34 13 C  dX8_lookAtPairs_10 (by decide) rfl (fun c10 => ?_) (fun c10 => ?_)
      rotate_left
      · exact absurd (nI_le (by omega) (by omega)) c10
      refine yr_vret C dX8_lookAtPairs_34 hr (Nat.le_of_ble_eq_true rfl) (Nat.le_of_ble_eq_true rfl) ?_
      have he2 : X = m_prL (N 4) 0 S := he
      rw [he2] at hR
      exact ⟨rfl, hR⟩
    | succ j ih =>
      intro i X hij hX he h hR
      have n0 : X 1 0 = nI (N 0) ∧ N 0 ≤ 8 := hX 0
      have n1 : X 17 0 = nI (N 1) ∧ N 1 ≤ 6 := hX 1
      have n4 : X 29 0 = nI (N 4) ∧ N 4 ≤ 6 := hX 2
      have k3 : X 0 0 = nI t ∧ t < 2 ^ 20 ∧ N 2 ≤ 12 := hX 3
      refine yr_iload_n 3 C dX8_lookAtPairs_2 rfl rfl ?_
      refine yr_aload_n 4 C dX8_lookAtPairs_3 rfl rfl rfl ?_
      refine yr_get 7 C dX8_lookAtPairs_4 fl_X8_25 (rx0 hR) rfl rfl ?_
      refine yr_V0v 10 C (jl_size (show 4 < 5 by decide) _ hR) dX8_lookAtPairs_7 mt_Jx4a65c_size_8abf5 mv_Jx4a65c_size_8abf5 ml_X8_75 (rx1 hR (show 4 < 5 by decide)) rfl (Nat.le_of_ble_eq_true rfl) (Nat.le_of_ble_eq_true rfl) (Nat.le_of_ble_eq_true rfl) (Nat.le_of_ble_eq_true rfl) (Nat.le_of_ble_eq_true rfl) rfl (fun h e => ?_)
      subst e
      refine yr_icmp_ge 34 13 C  dX8_lookAtPairs_10 (by decide) rfl (fun c10 => ?_) (fun c10 => ?_)
      · exact absurd c10 (nI_ge (by omega) (by omega))
      refine yr_aload_n 14 C dX8_lookAtPairs_13 rfl rfl rfl ?_
      refine yr_get 17 C dX8_lookAtPairs_14 fl_X8_25 (rx0 hR) rfl rfl ?_
      refine yr_iload_n 18 C dX8_lookAtPairs_17 rfl rfl ?_
      refine yr_V1v 21 C (jl_get (show 4 < 5 by decide) (j := i) (by omega) _ hR) dX8_lookAtPairs_18 mt_Jx4a65c_get_915e3 mv_Jx4a65c_get_915e3 ml_X8_99 (rx1 hR (show 4 < 5 by decide)) rfl (Nat.le_of_ble_eq_true rfl) (Nat.le_of_ble_eq_true rfl) (Nat.le_of_ble_eq_true rfl) (Nat.le_of_ble_eq_true rfl) (Nat.le_of_ble_eq_true rfl) rfl (fun h e => ?_)
      subst e
      rw [show xkd 4 = 12 from rfl]
      refine yr_cast 24 C dX8_lookAtPairs_21 (rx12 hR (by omega)) rfl cl_X8_161 rfl ?_
      refine yr_iload_n 25 C dX8_lookAtPairs_24 rfl rfl ?_
      refine yr_V1u 28 C (xc_lookAt i (by omega) hX _ hR) dX8_lookAtPairs_25 mt_X5_lookAt mv_X5_lookAt ml_X8_380 (rx12 hR (by omega)) rfl (Nat.le_of_ble_eq_true rfl) (Nat.le_of_ble_eq_true rfl) (Nat.le_of_ble_eq_true rfl) (Nat.le_of_ble_eq_true rfl) (Nat.le_of_ble_eq_true rfl) rfl (fun h hR => ?_)
      refine yr_iinc2 31 C (1) dX8_lookAtPairs_28 rfl (by decide) rfl ?_
      rw [nI_1]
      refine yr_goto 2 C dX8_lookAtPairs_31 (by decide) ?_
      exact ih (i + 1) _ (by omega) (mB_fr hX (mFr_set X i _ (show mFk 33 = true from rfl))) he h hR
  exact loop2 (N 4) 0 S (by omega) hB rfl h hR
set_option maxHeartbeats 4000000 in
set_option maxRecDepth 100000 in
theorem xc_faultToMeet  (hB : mB S (N 0) (N 1) (N 2) (N 4) t) (h : yH) (hR : RX dA t0 (S) lf mc cap B N h) : yM (yZ t0 mi D dA) D yX8_faultToMeet cX8_faultToMeet 3 (some .int) 3 0 0 [.ref (B 0 0)] h (fun r h' => r = some (.int (m_fault S (N 0) (N 4))) ∧ RX dA t0 (S) lf mc cap B N h') := by
  refine yM_of (yZ_ok t0 mi D dA) (by decide) rfl (Nat.le_of_ble_eq_true rfl) ?_
  intro p l e s m args below meth c A C hr hin
  show yW p l e (yR 3 0 0) s m args below meth c 3 D A 0 0 _ 0 [some (.ref (B 0 0)), none, none] [] h
  have n0 : S 1 0 = nI (N 0) ∧ N 0 ≤ 8 := hB 0
  have n1 : S 17 0 = nI (N 1) ∧ N 1 ≤ 6 := hB 1
  have n4 : S 29 0 = nI (N 4) ∧ N 4 ≤ 6 := hB 2
  have k3 : S 0 0 = nI t ∧ t < 2 ^ 20 ∧ N 2 ≤ 12 := hB 3
  refine yr_iconst 1 C (0) dX8_faultToMeet_0 rfl rfl ?_
  refine yr_istore1 2 C dX8_faultToMeet_1 (by decide) rfl ?_
  have loop2 : ∀ (j i : Nat) , i + j = N 0 → m_litL S j i = m_litL S (N 0) 0 → ∀ h : yH, RX dA t0 (S) lf mc cap B N h → yW p l e (yR 3 0 0) s m args below meth c 3 D A 0 0 (yF D A (fun r h' => r = some (.int (m_fault S (N 0) (N 4))) ∧ RX dA t0 (S) lf mc cap B N h') below args s 0 0) 2 [some (.ref (B 0 0)), some (.int (nI i)), none] [] h := by
    intro j
    induction j with
    | zero =>
      intro i  hij he h hR
      refine yr_iload_n 3 C dX8_faultToMeet_2 rfl rfl ?_
      refine yr_aload_n 4 C dX8_faultToMeet_3 rfl rfl rfl ?_
      refine yr_get 7 C dX8_faultToMeet_4 fl_X8_10 (rx0 hR) rfl rfl ?_
      refine yr_V0v 10 C (jl_size (show 0 < 5 by decide) _ hR) dX8_faultToMeet_7 mt_Jx4a65c_size_8abf5 mv_Jx4a65c_size_8abf5 ml_X8_75 (rx1 hR (show 0 < 5 by decide)) rfl (Nat.le_of_ble_eq_true rfl) (Nat.le_of_ble_eq_true rfl) (Nat.le_of_ble_eq_true rfl) (Nat.le_of_ble_eq_true rfl) (Nat.le_of_ble_eq_true rfl) rfl (fun h e => ?_)
      subst e
      refine yr_icmp_ge 47 13 C  dX8_faultToMeet_10 (by decide) rfl (fun c10 => ?_) (fun c10 => ?_)
      rotate_left
      · exact absurd (nI_le (by omega) (by omega)) c10
      refine yr_iconst 48 C (0) dX8_faultToMeet_47 rfl rfl ?_
      refine yr_istore1 49 C dX8_faultToMeet_48 (by decide) rfl ?_
      have loop49 : ∀ (j i : Nat) , i + j = N 4 → m_brkL S j i = m_brkL S (N 4) 0 → ∀ h : yH, RX dA t0 (S) lf mc cap B N h → yW p l e (yR 3 0 0) s m args below meth c 3 D A 0 0 (yF D A (fun r h' => r = some (.int (m_fault S (N 0) (N 4))) ∧ RX dA t0 (S) lf mc cap B N h') below args s 0 0) 49 [some (.ref (B 0 0)), some (.int (nI i)), none] [] h := by
        intro j
        induction j with
        | zero =>
          intro i  hij hf h hR
          refine yr_iload_n 50 C dX8_faultToMeet_49 rfl rfl ?_
          refine yr_aload_n 51 C dX8_faultToMeet_50 rfl rfl rfl ?_
          refine yr_get 54 C dX8_faultToMeet_51 fl_X8_25 (rx0 hR) rfl rfl ?_
          refine yr_V0v 57 C (jl_size (show 4 < 5 by decide) _ hR) dX8_faultToMeet_54 mt_Jx4a65c_size_8abf5 mv_Jx4a65c_size_8abf5 ml_X8_75 (rx1 hR (show 4 < 5 by decide)) rfl (Nat.le_of_ble_eq_true rfl) (Nat.le_of_ble_eq_true rfl) (Nat.le_of_ble_eq_true rfl) (Nat.le_of_ble_eq_true rfl) (Nat.le_of_ble_eq_true rfl) rfl (fun h e => ?_)
          subst e
          refine yr_icmp_ge 85 60 C  dX8_faultToMeet_57 (by decide) rfl (fun c57 => ?_) (fun c57 => ?_)
          rotate_left
          · exact absurd (nI_le (by omega) (by omega)) c57
          refine yr_aload_n 86 C dX8_faultToMeet_85 rfl rfl rfl ?_
          refine yr_get 89 C dX8_faultToMeet_86 fl_X8_38 (rx0 hR) rfl rfl ?_
          refine yr_get 92 C dX8_faultToMeet_89 fl_X8_197 (rx15 hR) rfl rfl ?_
          refine yr_if_eq 99 95 C  dX8_faultToMeet_92 (by decide) rfl (fun c92 => ?_) (fun c92 => ?_)
          · refine yr_iconst 100 C (0) dX8_faultToMeet_99 rfl rfl ?_
            refine yr_iret C dX8_faultToMeet_100 hr (Nat.le_of_ble_eq_true rfl) (Nat.le_of_ble_eq_true rfl) ?_
            have e1 : m_litL S (N 0) 0 = false := he.symm
            have e2 : m_brkL S (N 4) 0 = false := hf.symm
            exact ⟨by simp [m_fault, e1, e2, c92], hR⟩
          · refine yr_iconst 96 C (3) dX8_faultToMeet_95 rfl rfl ?_
            refine yr_goto 100 C dX8_faultToMeet_96 (by decide) ?_
            refine yr_iret C dX8_faultToMeet_100 hr (Nat.le_of_ble_eq_true rfl) (Nat.le_of_ble_eq_true rfl) ?_
            have e1 : m_litL S (N 0) 0 = false := he.symm
            have e2 : m_brkL S (N 4) 0 = false := hf.symm
            exact ⟨by simp [m_fault, e1, e2, c92], hR⟩
        | succ j ih =>
          intro i  hij hf h hR
          refine yr_iload_n 50 C dX8_faultToMeet_49 rfl rfl ?_
          refine yr_aload_n 51 C dX8_faultToMeet_50 rfl rfl rfl ?_
          refine yr_get 54 C dX8_faultToMeet_51 fl_X8_25 (rx0 hR) rfl rfl ?_
          refine yr_V0v 57 C (jl_size (show 4 < 5 by decide) _ hR) dX8_faultToMeet_54 mt_Jx4a65c_size_8abf5 mv_Jx4a65c_size_8abf5 ml_X8_75 (rx1 hR (show 4 < 5 by decide)) rfl (Nat.le_of_ble_eq_true rfl) (Nat.le_of_ble_eq_true rfl) (Nat.le_of_ble_eq_true rfl) (Nat.le_of_ble_eq_true rfl) (Nat.le_of_ble_eq_true rfl) rfl (fun h e => ?_)
          subst e
          refine yr_icmp_ge 85 60 C  dX8_faultToMeet_57 (by decide) rfl (fun c57 => ?_) (fun c57 => ?_)
          · exact absurd c57 (nI_ge (by omega) (by omega))
          refine yr_aload_n 61 C dX8_faultToMeet_60 rfl rfl rfl ?_
          refine yr_get 64 C dX8_faultToMeet_61 fl_X8_25 (rx0 hR) rfl rfl ?_
          refine yr_iload_n 65 C dX8_faultToMeet_64 rfl rfl ?_
          refine yr_V1v 68 C (jl_get (show 4 < 5 by decide) (j := i) (by omega) _ hR) dX8_faultToMeet_65 mt_Jx4a65c_get_915e3 mv_Jx4a65c_get_915e3 ml_X8_99 (rx1 hR (show 4 < 5 by decide)) rfl (Nat.le_of_ble_eq_true rfl) (Nat.le_of_ble_eq_true rfl) (Nat.le_of_ble_eq_true rfl) (Nat.le_of_ble_eq_true rfl) (Nat.le_of_ble_eq_true rfl) rfl (fun h e => ?_)
          subst e
          rw [show xkd 4 = 12 from rfl]
          refine yr_cast 71 C dX8_faultToMeet_68 (rx12 hR (by omega)) rfl cl_X8_161 rfl ?_
          refine yr_V0v 74 C (xc_isBroken i (by omega) _ hR) dX8_faultToMeet_71 mt_X5_isBroken mv_X5_isBroken ml_X8_386 (rx12 hR (by omega)) rfl (Nat.le_of_ble_eq_true rfl) (Nat.le_of_ble_eq_true rfl) (Nat.le_of_ble_eq_true rfl) (Nat.le_of_ble_eq_true rfl) (Nat.le_of_ble_eq_true rfl) rfl (fun h hR => ?_)
          refine yb_eq 79 77 C  dX8_faultToMeet_74 (by decide) rfl (fun c74 => ?_) (fun c74 => ?_)
          · refine yr_iinc1 82 C (1) dX8_faultToMeet_79 rfl (by decide) rfl ?_
            rw [nI_1]
            refine yr_goto 49 C dX8_faultToMeet_82 (by decide) ?_
            have c75 : S 33 i < S 32 i := by simpa using c74
            exact ih (i + 1) (by omega) (by rw [← hf]; simp [m_brkL, c75]) h hR
          · refine yr_iconst 78 C (2) dX8_faultToMeet_77 rfl rfl ?_
            refine yr_iret C dX8_faultToMeet_78 hr (Nat.le_of_ble_eq_true rfl) (Nat.le_of_ble_eq_true rfl) ?_
            have c75 : ¬ S 33 i < S 32 i := by simpa using c74
            have e1 : m_litL S (N 0) 0 = false := he.symm
            have e2 : m_brkL S (N 4) 0 = true := by rw [← hf]; simp only [m_brkL]; rw [if_neg c75]
            exact ⟨by simp [m_fault, e1, e2], hR⟩
      exact loop49 (N 4) 0 (by omega) rfl h hR
    | succ j ih =>
      intro i  hij he h hR
      refine yr_iload_n 3 C dX8_faultToMeet_2 rfl rfl ?_
      refine yr_aload_n 4 C dX8_faultToMeet_3 rfl rfl rfl ?_
      refine yr_get 7 C dX8_faultToMeet_4 fl_X8_10 (rx0 hR) rfl rfl ?_
      refine yr_V0v 10 C (jl_size (show 0 < 5 by decide) _ hR) dX8_faultToMeet_7 mt_Jx4a65c_size_8abf5 mv_Jx4a65c_size_8abf5 ml_X8_75 (rx1 hR (show 0 < 5 by decide)) rfl (Nat.le_of_ble_eq_true rfl) (Nat.le_of_ble_eq_true rfl) (Nat.le_of_ble_eq_true rfl) (Nat.le_of_ble_eq_true rfl) (Nat.le_of_ble_eq_true rfl) rfl (fun h e => ?_)
      subst e
      refine yr_icmp_ge 47 13 C  dX8_faultToMeet_10 (by decide) rfl (fun c10 => ?_) (fun c10 => ?_)
      · exact absurd c10 (nI_ge (by omega) (by omega))
      refine yr_aload_n 14 C dX8_faultToMeet_13 rfl rfl rfl ?_
      refine yr_get 17 C dX8_faultToMeet_14 fl_X8_10 (rx0 hR) rfl rfl ?_
      refine yr_iload_n 18 C dX8_faultToMeet_17 rfl rfl ?_
      refine yr_V1v 21 C (jl_get (show 0 < 5 by decide) (j := i) (by omega) _ hR) dX8_faultToMeet_18 mt_Jx4a65c_get_915e3 mv_Jx4a65c_get_915e3 ml_X8_99 (rx1 hR (show 0 < 5 by decide)) rfl (Nat.le_of_ble_eq_true rfl) (Nat.le_of_ble_eq_true rfl) (Nat.le_of_ble_eq_true rfl) (Nat.le_of_ble_eq_true rfl) (Nat.le_of_ble_eq_true rfl) rfl (fun h e => ?_)
      subst e
      rw [show xkd 0 = 3 from rfl]
      refine yr_cast 24 C dX8_faultToMeet_21 (rx3 hR (by omega)) rfl cl_X8_79 rfl ?_
      refine yr_astore2 25 C dX8_faultToMeet_24 rfl (by decide) rfl ?_
      refine yr_aload_n 26 C dX8_faultToMeet_25 rfl rfl rfl ?_
      refine yr_get 29 C dX8_faultToMeet_26 fl_X8_157 (rx3 hR (by omega)) rfl rfl ?_
      refine yr_if_eq 41 32 C  dX8_faultToMeet_29 (by decide) rfl (fun c29 => ?_) (fun c29 => ?_)
      · refine yr_iinc1 44 C (1) dX8_faultToMeet_41 rfl (by decide) rfl ?_
        rw [nI_1]
        refine yr_goto 2 C dX8_faultToMeet_44 (by decide) ?_
        refine yr_forget2 ?_
        exact ih (i + 1) (by omega) (by rw [← he]; simp [m_litL, c29]) h hR
      · refine yr_aload_n 33 C dX8_faultToMeet_32 rfl rfl rfl ?_
        refine yr_V0v 36 C (xc_isLit i (by omega) _ hR) dX8_faultToMeet_33 mt_X6_isLit mv_X6_isLit ml_X8_383 (rx3 hR (by omega)) rfl (Nat.le_of_ble_eq_true rfl) (Nat.le_of_ble_eq_true rfl) (Nat.le_of_ble_eq_true rfl) (Nat.le_of_ble_eq_true rfl) (Nat.le_of_ble_eq_true rfl) rfl (fun h hR => ?_)
        refine yb_eq 41 39 C  dX8_faultToMeet_36 (by decide) rfl (fun c36 => ?_) (fun c36 => ?_)
        · refine yr_iinc1 44 C (1) dX8_faultToMeet_41 rfl (by decide) rfl ?_
          rw [nI_1]
          refine yr_goto 2 C dX8_faultToMeet_44 (by decide) ?_
          have c37 : ¬ (S 3 i = 1 ∨ S 3 i = 2) := by simpa using c36
          refine yr_forget2 ?_
          exact ih (i + 1) (by omega) (by rw [← he]; simp [m_litL, c29, c37]) h hR
        · refine yr_iconst 40 C (1) dX8_faultToMeet_39 rfl rfl ?_
          refine yr_iret C dX8_faultToMeet_40 hr (Nat.le_of_ble_eq_true rfl) (Nat.le_of_ble_eq_true rfl) ?_
          have c37 : S 3 i = 1 ∨ S 3 i = 2 := by simpa using c36
          have e1 : m_litL S (N 0) 0 = true := by rw [← he]; simp [m_litL, c29, c37]
          exact ⟨by simp [m_fault, e1], hR⟩
  exact loop2 (N 0) 0 (by omega) rfl h hR
set_option maxHeartbeats 4000000 in
set_option maxRecDepth 100000 in
theorem xc_readPhases (ha : ∀ p, p < N 0 → cO (S 10 p) (t + 1)) (hB : mB S (N 0) (N 1) (N 2) (N 4) t) (h : yH) (hR : RX dA t0 (S) lf mc cap B N h) : yM (yZ t0 mi D dA) D yX8_readPhases cX8_readPhases 4 none 4 0 0 [.ref (B 0 0), .int (nI t)] h (fun r h' => r = none ∧ RX dA t0 (m_rdL (N 0) 0 S) lf mc cap B N h') := by
  refine yM_of (yZ_ok t0 mi D dA) (by decide) rfl (Nat.le_of_ble_eq_true rfl) ?_
  intro p l e s m args below meth c A C hr hin
  show yW p l e (yR 4 0 0) s m args below meth c 4 D A 0 0 _ 0 [some (.ref (B 0 0)), some (.int (nI t)), none, none] [] h
  refine yr_iconst 1 C (0) dX8_readPhases_0 rfl rfl ?_
  refine yr_istore2 2 C dX8_readPhases_1 (by decide) rfl ?_
  have loop2 : ∀ (j i : Nat) (X : yS), i + j = N 0 → mB X (N 0) (N 1) (N 2) (N 4) t → (∀ p, p < N 0 → cO (X 10 p) (t + 1)) → m_rdL j i X = m_rdL (N 0) 0 S → ∀ h : yH, RX dA t0 (X) lf mc cap B N h → yW p l e (yR 4 0 0) s m args below meth c 4 D A 0 0 (yF D A (fun r h' => r = none ∧ RX dA t0 (m_rdL (N 0) 0 S) lf mc cap B N h') below args s 0 0) 2 [some (.ref (B 0 0)), some (.int (nI t)), some (.int (nI i)), none] [] h := by
    intro j
    induction j with
    | zero =>
      intro i X hij hX hA he h hR
      have n0 : X 1 0 = nI (N 0) ∧ N 0 ≤ 8 := hX 0
      have n1 : X 17 0 = nI (N 1) ∧ N 1 ≤ 6 := hX 1
      have n4 : X 29 0 = nI (N 4) ∧ N 4 ≤ 6 := hX 2
      have k3 : X 0 0 = nI t ∧ t < 2 ^ 20 ∧ N 2 ≤ 12 := hX 3
      refine yr_iload_n 3 C dX8_readPhases_2 rfl rfl ?_
      refine yr_aload_n 4 C dX8_readPhases_3 rfl rfl rfl ?_
      refine yr_get 7 C dX8_readPhases_4 fl_X8_10 (rx0 hR) rfl rfl ?_
      refine yr_V0v 10 C (jl_size (show 0 < 5 by decide) _ hR) dX8_readPhases_7 mt_Jx4a65c_size_8abf5 mv_Jx4a65c_size_8abf5 ml_X8_75 (rx1 hR (show 0 < 5 by decide)) rfl (Nat.le_of_ble_eq_true rfl) (Nat.le_of_ble_eq_true rfl) (Nat.le_of_ble_eq_true rfl) (Nat.le_of_ble_eq_true rfl) (Nat.le_of_ble_eq_true rfl) rfl (fun h e => ?_)
      subst e
      refine yr_icmp_ge 81 13 C  dX8_readPhases_10 (by decide) rfl (fun c10 => ?_) (fun c10 => ?_)
      rotate_left
      · exact absurd (nI_le (by omega) (by omega)) c10
      refine yr_vret C dX8_readPhases_81 hr (Nat.le_of_ble_eq_true rfl) (Nat.le_of_ble_eq_true rfl) ?_
      have he2 : X = m_rdL (N 0) 0 S := he
      rw [he2] at hR
      exact ⟨rfl, hR⟩
    | succ j ih =>
      intro i X hij hX hA he h hR
      have n0 : X 1 0 = nI (N 0) ∧ N 0 ≤ 8 := hX 0
      have n1 : X 17 0 = nI (N 1) ∧ N 1 ≤ 6 := hX 1
      have n4 : X 29 0 = nI (N 4) ∧ N 4 ≤ 6 := hX 2
      have k3 : X 0 0 = nI t ∧ t < 2 ^ 20 ∧ N 2 ≤ 12 := hX 3
      refine yr_iload_n 3 C dX8_readPhases_2 rfl rfl ?_
      refine yr_aload_n 4 C dX8_readPhases_3 rfl rfl rfl ?_
      refine yr_get 7 C dX8_readPhases_4 fl_X8_10 (rx0 hR) rfl rfl ?_
      refine yr_V0v 10 C (jl_size (show 0 < 5 by decide) _ hR) dX8_readPhases_7 mt_Jx4a65c_size_8abf5 mv_Jx4a65c_size_8abf5 ml_X8_75 (rx1 hR (show 0 < 5 by decide)) rfl (Nat.le_of_ble_eq_true rfl) (Nat.le_of_ble_eq_true rfl) (Nat.le_of_ble_eq_true rfl) (Nat.le_of_ble_eq_true rfl) (Nat.le_of_ble_eq_true rfl) rfl (fun h e => ?_)
      subst e
      refine yr_icmp_ge 81 13 C  dX8_readPhases_10 (by decide) rfl (fun c10 => ?_) (fun c10 => ?_)
      · exact absurd c10 (nI_ge (by omega) (by omega))
      refine yr_aload_n 14 C dX8_readPhases_13 rfl rfl rfl ?_
      refine yr_get 17 C dX8_readPhases_14 fl_X8_10 (rx0 hR) rfl rfl ?_
      refine yr_iload_n 18 C dX8_readPhases_17 rfl rfl ?_
      refine yr_V1v 21 C (jl_get (show 0 < 5 by decide) (j := i) (by omega) _ hR) dX8_readPhases_18 mt_Jx4a65c_get_915e3 mv_Jx4a65c_get_915e3 ml_X8_99 (rx1 hR (show 0 < 5 by decide)) rfl (Nat.le_of_ble_eq_true rfl) (Nat.le_of_ble_eq_true rfl) (Nat.le_of_ble_eq_true rfl) (Nat.le_of_ble_eq_true rfl) (Nat.le_of_ble_eq_true rfl) rfl (fun h e => ?_)
      subst e
      rw [show xkd 0 = 3 from rfl]
      refine yr_cast 24 C dX8_readPhases_21 (rx3 hR (by omega)) rfl cl_X8_79 rfl ?_
      refine yr_astore3 25 C dX8_readPhases_24 rfl (by decide) rfl ?_
      refine yr_aload_n 26 C dX8_readPhases_25 rfl rfl rfl ?_
      refine yr_get 29 C dX8_readPhases_26 fl_X8_169 (rx3 hR (by omega)) rfl rfl ?_
      refine yr_iconst 30 C (1) dX8_readPhases_29 rfl rfl ?_
      refine yr_icmp_ne 46 33 C  dX8_readPhases_30 (by decide) rfl (fun c30 => ?_) (fun c30 => ?_)
      · refine yr_aload_n 47 C dX8_readPhases_46 rfl rfl rfl ?_
        refine yr_get 50 C dX8_readPhases_47 fl_X8_220 (rx3 hR (by omega)) rfl rfl ?_
        refine yr_iconst 51 C (4) dX8_readPhases_50 rfl rfl ?_
        refine yr_icmp_eq 75 54 C  dX8_readPhases_51 (by decide) rfl (fun c51 => ?_) (fun c51 => ?_)
        · refine yr_iinc2 78 C (1) dX8_readPhases_75 rfl (by decide) rfl ?_
          rw [nI_1]
          refine yr_goto 2 C dX8_readPhases_78 (by decide) ?_
          refine yr_forget3 ?_
          exact ih (i + 1) (m_rd X i) (by omega) (mB_fr hX (mFr_rw (m_rd_rw X i) rfl)) (m_rd_ask k3.1 hA i) he h (by unfold m_rd; rw [if_neg c30, if_pos c51]; split <;> exact hR)
        · refine yr_aload_n 55 C dX8_readPhases_54 rfl rfl rfl ?_
          refine yr_V0v 58 C (xc_isAsked i (by omega) _ hR) dX8_readPhases_55 mt_X6_isAsked mv_X6_isAsked ml_X8_166 (rx3 hR (by omega)) rfl (Nat.le_of_ble_eq_true rfl) (Nat.le_of_ble_eq_true rfl) (Nat.le_of_ble_eq_true rfl) (Nat.le_of_ble_eq_true rfl) (Nat.le_of_ble_eq_true rfl) rfl (fun h hR => ?_)
          refine yb_ne 75 61 C  dX8_readPhases_58 (by decide) rfl (fun c58 => ?_) (fun c58 => ?_)
          · refine yr_iinc2 78 C (1) dX8_readPhases_75 rfl (by decide) rfl ?_
            rw [nI_1]
            refine yr_goto 2 C dX8_readPhases_78 (by decide) ?_
            have a1 : 0 ≤ X 10 i := Int32.not_lt.mp (fun q => by simp [(cO_iff (by omega) (hA i (by omega))).mp q] at c58)
            refine yr_forget3 ?_
            exact ih (i + 1) (m_rd X i) (by omega) (mB_fr hX (mFr_rw (m_rd_rw X i) rfl)) (m_rd_ask k3.1 hA i) he h (by unfold m_rd; rw [if_neg c30, if_pos a1]; exact hR)
          · refine yr_aload_n 62 C dX8_readPhases_61 rfl rfl rfl ?_
            refine yr_aload_n 63 C dX8_readPhases_62 rfl rfl rfl ?_
            refine yr_iload_n 64 C dX8_readPhases_63 rfl rfl ?_
            refine yr_V2v 67 C (xc_asksIn i (by omega) c51 hX _ hR) dX8_readPhases_64 mt_X8_asksIn mv_X8_asksIn ml_X8_327 (rx0 hR) rfl (Nat.le_of_ble_eq_true rfl) (Nat.le_of_ble_eq_true rfl) (Nat.le_of_ble_eq_true rfl) (Nat.le_of_ble_eq_true rfl) (Nat.le_of_ble_eq_true rfl) rfl (fun h hR => ?_)
            refine yb_eq 75 70 C  dX8_readPhases_67 (by decide) rfl (fun c67 => ?_) (fun c67 => ?_)
            · refine yr_iinc2 78 C (1) dX8_readPhases_75 rfl (by decide) rfl ?_
              rw [nI_1]
              refine yr_goto 2 C dX8_readPhases_78 (by decide) ?_
              have a1 : ¬ 0 ≤ X 10 i := Int32.not_le.mpr ((cO_iff (by omega) (hA i (by omega))).mpr (by simpa using c58))
              refine yr_forget3 ?_
              exact ih (i + 1) (m_rd X i) (by omega) (mB_fr hX (mFr_rw (m_rd_rw X i) rfl)) (m_rd_ask k3.1 hA i) he h (by unfold m_rd; rw [if_neg c30, if_neg a1, if_neg c51, c67, if_neg (by decide)]; exact hR)
            · refine yr_aload_n 71 C dX8_readPhases_70 rfl rfl rfl ?_
              refine yr_iload_n 72 C dX8_readPhases_71 rfl rfl ?_
              refine xx_put 75 C dX8_readPhases_72 fp_X8_172 (rx3 hR (by omega)) (Nat.le_of_ble_eq_true rfl) rfl rfl (ru3_8 hR (by omega) _) rfl (fun h hR => ?_)
              refine yr_iinc2 78 C (1) dX8_readPhases_75 rfl (by decide) rfl ?_
              rw [nI_1]
              refine yr_goto 2 C dX8_readPhases_78 (by decide) ?_
              have a1 : ¬ 0 ≤ X 10 i := Int32.not_le.mpr ((cO_iff (by omega) (hA i (by omega))).mpr (by simpa using c58))
              have a2 : (m_doesAsk X i).2 0 0 = nI t := by rw [m_doesAsk_rw X i 0 (by decide)]; exact k3.1
              refine yr_forget3 ?_
              exact ih (i + 1) (m_rd X i) (by omega) (mB_fr hX (mFr_rw (m_rd_rw X i) rfl)) (m_rd_ask k3.1 hA i) he h (by unfold m_rd; rw [if_neg c30, if_neg a1, if_neg c51, c67, if_pos rfl, a2]; exact hR)
      · refine yr_aload_n 34 C dX8_readPhases_33 rfl rfl rfl ?_
        refine yr_aload_n 35 C dX8_readPhases_34 rfl rfl rfl ?_
        refine yr_aload_n 36 C dX8_readPhases_35 rfl rfl rfl ?_
        refine yr_iload_n 37 C dX8_readPhases_36 rfl rfl ?_
        refine yr_V2v 40 C (xc_holdsIn i (by omega) hX _ hR) dX8_readPhases_37 mt_X8_holdsIn mv_X8_holdsIn ml_X8_320 (rx0 hR) rfl (Nat.le_of_ble_eq_true rfl) (Nat.le_of_ble_eq_true rfl) (Nat.le_of_ble_eq_true rfl) (Nat.le_of_ble_eq_true rfl) (Nat.le_of_ble_eq_true rfl) rfl (fun h hR => ?_)
        refine xx_put 43 C dX8_readPhases_40 fp_X8_324 (rx3 hR (by omega)) (Nat.le_of_ble_eq_true rfl) (yd_narZ (bI_or _)) (yd_fitZ (bI_or _)) (ru3_7 hR (by omega) _) rfl (fun h hR => ?_)
        refine yr_goto 75 C dX8_readPhases_43 (by decide) ?_
        refine yr_iinc2 78 C (1) dX8_readPhases_75 rfl (by decide) rfl ?_
        rw [nI_1]
        refine yr_goto 2 C dX8_readPhases_78 (by decide) ?_
        refine yr_forget3 ?_
        exact ih (i + 1) (m_rd X i) (by omega) (mB_fr hX (mFr_rw (m_rd_rw X i) rfl)) (m_rd_ask k3.1 hA i) he h (by unfold m_rd; rw [if_pos c30]; exact hR)
  exact loop2 (N 0) 0 S (by omega) hB ha rfl h hR
end X11
