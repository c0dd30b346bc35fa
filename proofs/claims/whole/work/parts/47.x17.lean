/-- the class's state between calls: the state S of the reference, and at most T seconds -/
def XI (dA : Nat → ClassId) (t0 : Nat) (S : yS) (x0 T : Nat) (h : yH) : Prop := ∃ (mc : Nat → Int32) (cap : Nat → Nat) (B : Nat → Nat → Nat) (N : Nat → Nat) (t : Nat), B 0 0 = x0 ∧ RX dA t0 S (S 5) mc cap B N h ∧ mI S (N 0) (N 1) (N 2) (N 3) (N 4) t ∧ t ≤ T
theorem mB_of_mP {S : yS} {np ns nd no nr t : Nat} (hI : mP S np ns nd no nr t) (ht : t < 2 ^ 20) : mB S np ns nd nr t := fun i => match i with
  | 0 => hI 0 (by decide) (by decide)
  | 1 => hI 1 (by decide) (by decide)
  | 2 => hI 4 (by decide) (by decide)
  | 3 => ⟨hI 5 (by decide) (by decide), ht, (hI 2 (by decide) (by decide)).2⟩
  | 4 => hI 6 (by decide) (by decide)
  | 5 => hI 7 (by decide) (by decide)
  | 6 => hI 8 (by decide) (by decide)
  | 7 => hI 9 (by decide) (by decide)
  | 8 => hI 11 (by decide) (by decide)
  | 9 => hI 15 (by decide) (by decide)
  | (_ + 10) => trivial
theorem mP_runX {S : yS} {np ns nd no nr t : Nat} (h44 : S 44 0 = 0) (h : mI S np ns nd no nr t) : mP (m_runX S np ns nr) np ns nd no nr t := by
  have hA := mI_readAll (np := np) (nr := nr) h
  have a44 : m_readAll S np nr 44 0 = 0 := by rw [m_readAll_rw _ np nr 44 (by decide)]; exact h44
  unfold m_runX
  split
  · exact mI_run a44 hA
  · exact mP_meet _ hA
theorem i32_succ_ne (x : Int32) : x + 1 ≠ x := fun h => by
  have e : (1 : Int32) = 0 := by
    have := congrArg (fun y => y - x) h
    simpa [Int32.add_comm x 1, Int32.add_sub_cancel] using this
  exact absurd e (by decide)
theorem keep_45 {S : yS} {np t : Nat} : m_keep S np t 45 = S 45 := by
  unfold m_keep
  rw [mset_ne _ _ (by decide), m_kpL_rw t np 0 S 45 (by decide)]
theorem pass_run {S : yS} {np ns no nr t : Nat} (h : m_doOrders S no 44 0 ≤ 0) : (m_pass S np ns no nr t).2 = m_keep (m_runX (m_doOrders S no) np ns nr) np t := by
  unfold m_pass m_runX
  rw [if_pos h]
  split <;> rfl
theorem pass_flash {S : yS} {np ns no nr t : Nat} (h : ¬ m_doOrders S no 44 0 ≤ 0) : (m_pass S np ns no nr t).2 = m_keep (m_flash (m_doOrders S no) np) np t := by
  unfold m_pass
  rw [if_neg h]
theorem pass_met {S : yS} {np ns no nr t : Nat} : ((m_pass S np ns no nr t).1 = false → (m_pass S np ns no nr t).2 45 0 = S 45 0) ∧ ((m_pass S np ns no nr t).1 = true → (m_pass S np ns no nr t).2 45 0 = S 45 0 + 1) := by
  have d : m_doOrders S no 45 = S 45 := m_doOrders_rw S no 45 (by decide)
  have a : m_readAll (m_doOrders S no) np nr 45 = S 45 := by rw [m_readAll_rw _ np nr 45 (by decide), d]
  unfold m_pass
  repeat' split
  · refine ⟨fun _ => ?_, (fun z => by cases z)⟩
    show m_keep _ np t 45 0 = _
    rw [keep_45]
    unfold m_run
    rw [m_pBegin_rw _ ns 45 (by decide), m_amL_rw np 0 _ 45 (by decide), m_pEnd_rw _ np ns 45 (by decide), a]
  · refine ⟨(fun z => by cases z), fun _ => ?_⟩
    show m_keep _ np t 45 0 = _
    rw [keep_45, meet_at.2.2.2.2.2.2, a]
  · refine ⟨fun _ => ?_, (fun z => by cases z)⟩
    show m_keep _ np t 45 0 = _
    rw [keep_45, flash_rw _ np 45 (by decide), d]
theorem passS_eq {S : yS} {np ns nd no nr t : Nat} (h : mI S np ns nd no nr t) (ht : t < 2 ^ 20) : m_passS S = m_pass S np ns no nr t := by
  have h0 : S 1 0 = nI np ∧ np ≤ 8 := h 0
  have h1 : S 17 0 = nI ns ∧ ns ≤ 6 := h 1
  have h3 : S 23 0 = nI no ∧ no ≤ 16 := h 3
  have h4 : S 29 0 = nI nr ∧ nr ≤ 6 := h 4
  have h5 : S 0 0 = nI t := h 5
  unfold m_passS
  rw [h0.1, h1.1, h3.1, h4.1, h5, ix_nI (by omega), ix_nI (by omega), ix_nI (by omega), ix_nI (by omega), ix_nI (by omega)]
/-- the invariant behind a second, with the orders that are left -/
theorem mI_pass3 {S : yS} {N : Nat → Nat} {t n3 : Nat} (h : mI S (N 0) (N 1) (N 2) (N 3) (N 4) t) (ht : t < 2 ^ 20) (h3 : n3 ≤ N 3) (e : m_doOrders S (N 3) 23 0 = nI n3) : mI (m_doOrders S (N 3)) (N 0) (N 1) (N 2) n3 (N 4) t ∧ mI (m_pass S (N 0) (N 1) (N 3) (N 4) t).2 (N 0) (N 1) (N 2) n3 (N 4) (t + 1) := by
  have k3 : N 3 ≤ 16 := (h 3).2
  constructor
  · obtain ⟨n2, a1, a2⟩ := mI_doOrders h
    have b : m_doOrders S (N 3) 23 0 = nI n2 ∧ n2 ≤ 16 := a2 3
    have : n2 = n3 := nI_inj (by omega) (by omega) (b.1.symm.trans e)
    rw [← this]
    exact a2
  · obtain ⟨n2, a2⟩ := mI_pass h ht
    have b : (m_pass S (N 0) (N 1) (N 3) (N 4) t).2 23 0 = nI n2 ∧ n2 ≤ 16 := a2 3
    have c : (m_pass S (N 0) (N 1) (N 3) (N 4) t).2 23 = m_doOrders S (N 3) 23 := by
      have kp : ∀ X : yS, m_keep X (N 0) t 23 = X 23 := fun X => by
        unfold m_keep
        rw [mset_ne _ _ (by decide), m_kpL_rw t (N 0) 0 X 23 (by decide)]
      by_cases q : m_doOrders S (N 3) 44 0 ≤ 0
      · rw [pass_run q, kp]
        unfold m_runX m_run
        split
        · rw [m_pBegin_rw _ (N 1) 23 (by decide), m_amL_rw (N 0) 0 _ 23 (by decide), m_pEnd_rw _ (N 0) (N 1) 23 (by decide), m_readAll_rw _ (N 0) (N 4) 23 (by decide)]
        · rw [m_meet_rw _ _ (N 0) (N 4) 23 (by decide), m_readAll_rw _ (N 0) (N 4) 23 (by decide)]
      · rw [pass_flash q, kp, flash_rw _ (N 0) 23 (by decide)]
    rw [c] at b
    have : n2 = n3 := nI_inj (by omega) (by omega) (b.1.symm.trans e)
    rw [← this]
    exact a2
section X17
variable {D : va_G} {dA : Nat → ClassId} {t0 mi : Nat} {S : yS} {lf mc : Nat → Int32} {cap : Nat → Nat} {B : Nat → Nat → Nat} {N : Nat → Nat}
variable {t : Nat}
set_option maxHeartbeats 4000000 in
set_option maxRecDepth 100000 in
theorem xc_second (q : Int32) (hI : mI S (N 0) (N 1) (N 2) (N 3) (N 4) t) (ht : t + 4 < 2 ^ 20) (hlf : lf = S 5) (h : yH) (hR : RX dA t0 (S) lf mc cap B N h) : yM (yZ t0 mi D dA) D yX8_second cX8_second 4 (some .int) 6 0 0 [.ref (B 0 0), .int q] h (fun r h' => r = some (.int (sp_second S q).1) ∧ XI dA t0 (sp_second S q).2 (B 0 0) (t + 4) h') := by
  refine yM_of (yZ_ok t0 mi D dA) (by decide) rfl (Nat.le_of_ble_eq_true rfl) ?_
  intro p l e s m args below meth c A C hr hin
  show yW p l e (yR 6 0 0) s m args below meth c 4 D A 0 0 _ 0 [some (.ref (B 0 0)), some (.int q), none, none] [] h
  subst hlf
  have h0 : S 1 0 = nI (N 0) ∧ N 0 ≤ 8 := hI 0
  have h1 : S 17 0 = nI (N 1) ∧ N 1 ≤ 6 := hI 1
  have h2 : S 19 0 = nI (N 2) ∧ N 2 ≤ 12 := hI 2
  have h5 : S 0 0 = nI t := hI 5
  have hB := mB_of_mI hI (by omega)
  refine yr_iload_n 1 C dX8_second_0 rfl rfl ?_
  refine yr_iconst 2 C (0) dX8_second_1 rfl rfl ?_
  refine yr_iconst 3 C (4) dX8_second_2 rfl rfl ?_
  refine yr_S3v 6 C (xc_isWithin _ _ _ _ hR) dX8_second_3 mt_X8_isWithin ms_X8_isWithin ml_X8_95 (Nat.le_of_ble_eq_true rfl) (Nat.le_of_ble_eq_true rfl) (Nat.le_of_ble_eq_true rfl) (Nat.le_of_ble_eq_true rfl) (Nat.le_of_ble_eq_true rfl) rfl (fun h e => ?_)
  subst e
  refine yb_ne 11 9 C  dX8_second_6 (by decide) rfl (fun c6 => ?_) (fun c6 => ?_)
  · obtain ⟨n, hn, rfl⟩ := m_in_3 (k := 4) (by decide) c6
    refine yr_aload_n 12 C dX8_second_11 rfl rfl rfl ?_
    refine yr_get 15 C dX8_second_12 fl_X8_38 (rx0 hR) rfl rfl ?_
    refine yr_get 18 C dX8_second_15 fl_X8_182 (rx15 hR) rfl rfl ?_
    refine yr_istore2 19 C dX8_second_18 (by decide) rfl ?_
    refine yr_iconst 20 C (0) dX8_second_19 rfl rfl ?_
    refine yr_istore3 21 C dX8_second_20 (by decide) rfl ?_
    have loop21 : ∀ (j i : Nat) (X2 : yS) (mc2 : Nat → Int32) (B2 : Nat → Nat → Nat) (N2 : Nat → Nat) (t2 : Nat) (met : Bool), i + j = n → B2 0 0 = B 0 0 → mI X2 (N2 0) (N2 1) (N2 2) (N2 3) (N2 4) t2 → t2 = t + i → (met = true → X2 45 0 ≠ S 45 0) → (met = false → X2 45 0 = S 45 0) → m_secL j i met X2 = sp_second S (nI n) → ∀ h : yH, RX dA t0 X2 (X2 5) mc2 cap B2 N2 h → yW p l e (yR 6 0 0) s m args below meth c 4 D A 0 0 (yF D A (fun r h' => r = some (.int (sp_second S (nI n)).1) ∧ XI dA t0 (sp_second S (nI n)).2 (B 0 0) (t + 4) h') below args s 0 0) 21 [some (.ref (B2 0 0)), some (.int (nI n)), some (.int (S 45 0)), some (.int (nI i))] [] h := by
      intro j
      induction j with
      | zero =>
        intro i X2 mc2 B2 N2 t2 met hij eb hI2 et2 hm1 hm2 he h hR
        refine yr_iload_n 22 C dX8_second_21 rfl rfl ?_
        refine yr_iload_n 23 C dX8_second_22 rfl rfl ?_
        refine yr_icmp_ge 98 26 C  dX8_second_23 (by decide) rfl (fun c23 => ?_) (fun c23 => ?_)
        rotate_left
        · exact absurd (nI_le (by omega) (by omega)) c23
        refine yr_iload_n 99 C dX8_second_98 rfl rfl ?_
        refine yr_iret C dX8_second_99 hr (Nat.le_of_ble_eq_true rfl) (Nat.le_of_ble_eq_true rfl) ?_
        rw [← he]
        exact ⟨rfl, mc2, cap, B2, N2, t2, eb, hR, hI2, by omega⟩
      | succ j ih =>
        intro i X2 mc2 B2 N2 t2 met hij eb hI2 et2 hm1 hm2 he h hR
        have hB2 := mB_of_mI hI2 (show t2 < 2 ^ 20 by omega)
        have k52 : X2 0 0 = nI t2 := hI2 5
        refine yr_iload_n 22 C dX8_second_21 rfl rfl ?_
        refine yr_iload_n 23 C dX8_second_22 rfl rfl ?_
        refine yr_icmp_ge 98 26 C  dX8_second_23 (by decide) rfl (fun c23 => ?_) (fun c23 => ?_)
        · exact absurd c23 (nI_ge (by omega) (by omega))
        refine yr_aload_n 27 C dX8_second_26 rfl rfl rfl ?_
        refine yr_get 30 C dX8_second_27 fl_X8_38 (rx0 hR) rfl rfl ?_
        refine yr_get 33 C dX8_second_30 fl_X8_182 (rx15 hR) rfl rfl ?_
        refine yr_iload_n 34 C dX8_second_33 rfl rfl ?_
        refine yr_icmp_ne 98 37 C  dX8_second_34 (by decide) rfl (fun c34 => ?_) (fun c34 => ?_)
        · refine yr_iload_n 99 C dX8_second_98 rfl rfl ?_
          refine yr_iret C dX8_second_99 hr (Nat.le_of_ble_eq_true rfl) (Nat.le_of_ble_eq_true rfl) ?_
          have em : met = true := by
            cases met with
            | true => rfl
            | false => exact absurd (hm2 rfl) c34
          rw [← he, em]
          exact ⟨rfl, mc2, cap, B2, N2, t2, eb, hR, hI2, by omega⟩
        · refine yr_aload_n 38 C dX8_second_37 rfl rfl rfl ?_
          refine yr_aload_n 39 C dX8_second_38 rfl rfl rfl ?_
          refine yr_get 42 C dX8_second_39 fl_X8_49 (rx0 hR) rfl rfl ?_
          rw [k52]
          refine yr_V1u 45 C (xc_doOrders (hI2 10) (hI2 3).2 hB2 _ hR) dX8_second_42 mt_X8_doOrders mv_X8_doOrders ml_X8_185 (rx0 hR) rfl (Nat.le_of_ble_eq_true rfl) (Nat.le_of_ble_eq_true rfl) (Nat.le_of_ble_eq_true rfl) (Nat.le_of_ble_eq_true rfl) (Nat.le_of_ble_eq_true rfl) rfl (fun h hR => ?_)
          obtain ⟨mc3, B3, n3, eB3, hn3, e23, hR⟩ := hR
          have eb3 : B2 0 0 = B3 0 0 := by rw [eB3 0 (by decide)]
          rw [eb3]
          obtain ⟨hIY, hIP⟩ := mI_pass3 hI2 (by omega) hn3 e23
          obtain ⟨Y, hY⟩ : ∃ Y, Y = m_doOrders X2 (N2 3) := ⟨_, rfl⟩
          have y5 : X2 5 = Y 5 := by rw [hY]; exact (m_doOrders_rw X2 (N2 3) 5 (by decide)).symm
          rw [← hY, y5] at hR
          rw [← hY] at hIY
          have k5Y : Y 0 0 = nI t2 := hIY 5
          have y26 := (show Y 44 0 = 0 ∨ (Y 44 0 = 1 ∧ ∃ u, Y 42 0 = nI u ∧ u < t2 ∧ t2 ≤ u + 3) ∨ (Y 44 0 = 2 ∧ ∃ u, Y 42 0 = nI u ∧ u + 3 < t2) from hIY 26)
          have hBY := mB_of_mI hIY (by omega)
          refine yr_aload_n 46 C dX8_second_45 rfl rfl rfl ?_
          refine yr_get 49 C dX8_second_46 fl_X8_38 (rx0 hR) rfl rfl ?_
          refine yr_get 52 C dX8_second_49 fl_X8_179 (rx15 hR) rfl rfl ?_
          refine yr_if_ne 66 55 C  dX8_second_52 (by decide) rfl (fun c52 => ?_) (fun c52 => ?_)
          · refine yr_aload_n 67 C dX8_second_66 rfl rfl rfl ?_
            refine yr_aload_n 68 C dX8_second_67 rfl rfl rfl ?_
            refine yr_get 71 C dX8_second_68 fl_X8_49 (rx0 hR) rfl rfl ?_
            rw [k5Y]
            refine yr_V1u 74 C (xc_flashIfDue (N := va_up N2 3 n3) rfl (hIY 31) y26 c52 hBY _ hR) dX8_second_71 mt_X8_flashIfDue mv_X8_flashIfDue ml_X8_191 (rx0 hR) rfl (Nat.le_of_ble_eq_true rfl) (Nat.le_of_ble_eq_true rfl) (Nat.le_of_ble_eq_true rfl) (Nat.le_of_ble_eq_true rfl) (Nat.le_of_ble_eq_true rfl) rfl (fun h hR => ?_)
            obtain ⟨V, hV⟩ : ∃ V, V = m_flash Y (N2 0) := ⟨_, rfl⟩
            replace hR : RX dA t0 V (V 5) mc3 cap B3 (va_up N2 3 n3) h := by rw [hV]; exact hR
            have hPV : mP V (N2 0) (N2 1) (N2 2) n3 (N2 4) t2 := by rw [hV]; exact mP_flash (hIY 30 c52) hIY
            have z44 : ¬ m_doOrders X2 (N2 3) 44 0 ≤ 0 := by
              rw [← hY]
              rcases y26 with q | ⟨q, -⟩ | ⟨q, -⟩
              · exact absurd q c52
              · rw [q]; decide
              · rw [q]; decide
            have ep : (m_pass X2 (N2 0) (N2 1) (N2 3) (N2 4) t2).2 = m_keep V (N2 0) t2 := by rw [pass_flash z44, ← hY, hV]
            have hBV := mB_of_mP hPV (by omega)
            have k5V : V 0 0 = nI t2 := hPV 5 (by decide) (by decide)
            refine yr_aload_n 75 C dX8_second_74 rfl rfl rfl ?_
            refine yr_aload_n 76 C dX8_second_75 rfl rfl rfl ?_
            refine yr_get 79 C dX8_second_76 fl_X8_49 (rx0 hR) rfl rfl ?_
            rw [k5V]
            refine yr_V1u 82 C (xc_keepLights (N := va_up N2 3 n3) hBV _ hR) dX8_second_79 mt_X8_keepLights mv_X8_keepLights ml_X8_194 (rx0 hR) rfl (Nat.le_of_ble_eq_true rfl) (Nat.le_of_ble_eq_true rfl) (Nat.le_of_ble_eq_true rfl) (Nat.le_of_ble_eq_true rfl) (Nat.le_of_ble_eq_true rfl) rfl (fun h hR => ?_)
            refine yr_aload_n 83 C dX8_second_82 rfl rfl rfl ?_
            refine yr_dup 84 C dX8_second_83 rfl rfl ?_
            refine yr_get 87 C dX8_second_84 fl_X8_49 (rx0 hR) rfl rfl ?_
            refine yr_iconst 88 C (1) dX8_second_87 rfl rfl ?_
            refine yr_iadd 89 C dX8_second_88 rfl ?_
            refine xx_put 92 C dX8_second_89 fp_X8_49 (rx0 hR) (Nat.le_of_ble_eq_true rfl) rfl rfl (ru0_8 hR _) rfl (fun h hR => ?_)
            refine yr_iinc3 95 C (1) dX8_second_92 rfl (by decide) rfl ?_
            rw [nI_1]
            refine yr_goto 21 C dX8_second_95 (by decide) ?_
            have hR2 : RX dA t0 (m_pass X2 (N2 0) (N2 1) (N2 3) (N2 4) t2).2 ((m_pass X2 (N2 0) (N2 1) (N2 3) (N2 4) t2).2 5) mc3 cap B3 (va_up N2 3 n3) h := by
              rw [ep]
              have e5 : m_keep V (N2 0) t2 5 = V 5 := by
                unfold m_keep
                rw [mset_ne _ _ (by decide), m_kpL_rw t2 (N2 0) 0 V 5 (by decide)]
              rw [e5]
              exact hR
            have eq : m_passS X2 = m_pass X2 (N2 0) (N2 1) (N2 3) (N2 4) t2 := passS_eq hI2 (by omega)
            have em : met = false := by
              cases met with
              | false => rfl
              | true => exact absurd c34 (hm1 rfl)
            have pm := pass_met (S := X2) (np := N2 0) (ns := N2 1) (no := N2 3) (nr := N2 4) (t := t2)
            exact ih (i + 1) _ mc3 B3 (va_up N2 3 n3) (t2 + 1) (m_pass X2 (N2 0) (N2 1) (N2 3) (N2 4) t2).1 (by omega) (eb3.symm.trans eb) hIP (by omega) (fun z => by rw [pm.2 z, ← c34]; exact i32_succ_ne _) (fun z => by rw [pm.1 z]; exact c34) (by
              rw [← he, em]
              show _ = m_secL j (i + 1) (m_passS X2).1 (m_passS X2).2
              rw [eq]) h hR2
          · refine yr_aload_n 56 C dX8_second_55 rfl rfl rfl ?_
            refine yr_aload_n 57 C dX8_second_56 rfl rfl rfl ?_
            refine yr_get 60 C dX8_second_57 fl_X8_49 (rx0 hR) rfl rfl ?_
            rw [k5Y]
            refine yr_V1u 63 C (xc_runLights (N := va_up N2 3 n3) rfl (hIY 31) (hIY 32) hIY (by omega) _ hR) dX8_second_60 mt_X8_runLights mv_X8_runLights ml_X8_188 (rx0 hR) rfl (Nat.le_of_ble_eq_true rfl) (Nat.le_of_ble_eq_true rfl) (Nat.le_of_ble_eq_true rfl) (Nat.le_of_ble_eq_true rfl) (Nat.le_of_ble_eq_true rfl) rfl (fun h hR => ?_)
            refine yr_goto 74 C dX8_second_63 (by decide) ?_
            obtain ⟨V, hV⟩ : ∃ V, V = m_runX Y (N2 0) (N2 1) (N2 4) := ⟨_, rfl⟩
            replace hR : RX dA t0 V (V 5) mc3 cap B3 (va_up N2 3 n3) h := by rw [hV]; exact hR
            have hPV : mP V (N2 0) (N2 1) (N2 2) n3 (N2 4) t2 := by rw [hV]; exact mP_runX c52 hIY
            have z44 : m_doOrders X2 (N2 3) 44 0 ≤ 0 := by rw [← hY, c52]; decide
            have ep : (m_pass X2 (N2 0) (N2 1) (N2 3) (N2 4) t2).2 = m_keep V (N2 0) t2 := by rw [pass_run z44, ← hY, hV]
            have hBV := mB_of_mP hPV (by omega)
            have k5V : V 0 0 = nI t2 := hPV 5 (by decide) (by decide)
            refine yr_aload_n 75 C dX8_second_74 rfl rfl rfl ?_
            refine yr_aload_n 76 C dX8_second_75 rfl rfl rfl ?_
            refine yr_get 79 C dX8_second_76 fl_X8_49 (rx0 hR) rfl rfl ?_
            rw [k5V]
            refine yr_V1u 82 C (xc_keepLights (N := va_up N2 3 n3) hBV _ hR) dX8_second_79 mt_X8_keepLights mv_X8_keepLights ml_X8_194 (rx0 hR) rfl (Nat.le_of_ble_eq_true rfl) (Nat.le_of_ble_eq_true rfl) (Nat.le_of_ble_eq_true rfl) (Nat.le_of_ble_eq_true rfl) (Nat.le_of_ble_eq_true rfl) rfl (fun h hR => ?_)
            refine yr_aload_n 83 C dX8_second_82 rfl rfl rfl ?_
            refine yr_dup 84 C dX8_second_83 rfl rfl ?_
            refine yr_get 87 C dX8_second_84 fl_X8_49 (rx0 hR) rfl rfl ?_
            refine yr_iconst 88 C (1) dX8_second_87 rfl rfl ?_
            refine yr_iadd 89 C dX8_second_88 rfl ?_
            refine xx_put 92 C dX8_second_89 fp_X8_49 (rx0 hR) (Nat.le_of_ble_eq_true rfl) rfl rfl (ru0_8 hR _) rfl (fun h hR => ?_)
            refine yr_iinc3 95 C (1) dX8_second_92 rfl (by decide) rfl ?_
            rw [nI_1]
            refine yr_goto 21 C dX8_second_95 (by decide) ?_
            have hR2 : RX dA t0 (m_pass X2 (N2 0) (N2 1) (N2 3) (N2 4) t2).2 ((m_pass X2 (N2 0) (N2 1) (N2 3) (N2 4) t2).2 5) mc3 cap B3 (va_up N2 3 n3) h := by
              rw [ep]
              have e5 : m_keep V (N2 0) t2 5 = V 5 := by
                unfold m_keep
                rw [mset_ne _ _ (by decide), m_kpL_rw t2 (N2 0) 0 V 5 (by decide)]
              rw [e5]
              exact hR
            have eq : m_passS X2 = m_pass X2 (N2 0) (N2 1) (N2 3) (N2 4) t2 := passS_eq hI2 (by omega)
            have em : met = false := by
              cases met with
              | false => rfl
              | true => exact absurd c34 (hm1 rfl)
            have pm := pass_met (S := X2) (np := N2 0) (ns := N2 1) (no := N2 3) (nr := N2 4) (t := t2)
            exact ih (i + 1) _ mc3 B3 (va_up N2 3 n3) (t2 + 1) (m_pass X2 (N2 0) (N2 1) (N2 3) (N2 4) t2).1 (by omega) (eb3.symm.trans eb) hIP (by omega) (fun z => by rw [pm.2 z, ← c34]; exact i32_succ_ne _) (fun z => by rw [pm.1 z]; exact c34) (by
              rw [← he, em]
              show _ = m_secL j (i + 1) (m_passS X2).1 (m_passS X2).2
              rw [eq]) h hR2
    exact loop21 n 0 S mc B N t false (by omega) rfl hI rfl (fun z => by cases z) (fun _ => rfl) (by unfold sp_second; rw [if_pos c6, ix_nI (by omega)]) h hR
  · refine yr_iconst 10 C (-1) dX8_second_9 rfl rfl ?_
    refine yr_iret C dX8_second_10 hr (Nat.le_of_ble_eq_true rfl) (Nat.le_of_ble_eq_true rfl) ?_
    exact ⟨by simp [sp_second, c6], by unfold sp_second; rw [c6]; exact ⟨mc, cap, B, N, t, rfl, hR, hI, by omega⟩⟩
end X17
