section X8
variable {D : va_G} {dA : Nat → ClassId} {t0 mi : Nat} {S : yS} {lf mc : Nat → Int32} {cap : Nat → Nat} {B : Nat → Nat → Nat} {N : Nat → Nat}
variable {nd nr t : Nat}
set_option maxHeartbeats 4000000 in
set_option maxRecDepth 100000 in
theorem xc_hurry (q : Int32) (hI : mI S (N 0) (N 1) (N 2) (N 3) (N 4) t) (ht : t < 2 ^ 20) (hlf : lf = S 5) (h : yH) (hR : RX dA t0 (S) lf mc cap B N h) : yM (yZ t0 mi D dA) D yX8_hurry cX8_hurry 3 (some .int) 4 0 0 [.ref (B 0 0), .int q] h (fun r h' => r = some (.int (sp_hurry S q).1) ∧ RX dA t0 ((sp_hurry S q).2) lf mc cap B N h') := by
  refine yM_of (yZ_ok t0 mi D dA) (by decide) rfl (Nat.le_of_ble_eq_true rfl) ?_
  intro p l e s m args below meth c A C hr hin
  show yW p l e (yR 4 0 0) s m args below meth c 3 D A 0 0 _ 0 [some (.ref (B 0 0)), some (.int q), none] [] h
  have h0 : S 1 0 = nI (N 0) ∧ N 0 ≤ 8 := hI 0
  have h1 : S 17 0 = nI (N 1) ∧ N 1 ≤ 6 := hI 1
  have h2 : S 19 0 = nI (N 2) ∧ N 2 ≤ 12 := hI 2
  have h5 : S 0 0 = nI t := hI 5
  have hB := mB_of_mI hI ht
  have h26 := (show S 44 0 = 0 ∨ (S 44 0 = 1 ∧ ∃ u, S 42 0 = nI u ∧ u < t ∧ t ≤ u + 3) ∨ (S 44 0 = 2 ∧ ∃ u, S 42 0 = nI u ∧ u + 3 < t) from hI 26)
  have h12 : cO (S 34 0) (N 1) := hI 12
  refine yr_aload_n 1 C dX8_hurry_0 rfl rfl rfl ?_
  refine yr_iload_n 2 C dX8_hurry_1 rfl rfl ?_
  refine yr_V1v 5 C (xc_stageAt _ h1 _ hR) dX8_hurry_2 mt_X8_stageAt mv_X8_stageAt ml_X8_175 (rx0 hR) rfl (Nat.le_of_ble_eq_true rfl) (Nat.le_of_ble_eq_true rfl) (Nat.le_of_ble_eq_true rfl) (Nat.le_of_ble_eq_true rfl) (Nat.le_of_ble_eq_true rfl) rfl (fun h hR => ?_)
  rcases st_cases (B := B) hI q with ⟨e1, e2⟩ | ⟨j, hj, rfl, e1, e2⟩
  · rw [e2]
    refine yr_astore2 6 C dX8_hurry_5 rfl (by decide) rfl ?_
    refine yr_aload_n 7 C dX8_hurry_6 rfl rfl rfl ?_
    refine yr_ifnonnull_n 10 C dX8_hurry_7 rfl ?_
    refine yr_iconst 11 C (-1) dX8_hurry_10 rfl rfl ?_
    refine yr_iret C dX8_hurry_11 hr (Nat.le_of_ble_eq_true rfl) (Nat.le_of_ble_eq_true rfl) ?_
    exact ⟨by simp [sp_hurry, e1], by simpa [sp_hurry, e1] using hR⟩
  · rw [e2]
    have ej : ix (nI j) = j := ix_nI (by omega)
    refine yr_astore2 6 C dX8_hurry_5 rfl (by decide) rfl ?_
    refine yr_aload_n 7 C dX8_hurry_6 rfl rfl rfl ?_
    refine yr_ifnonnull_r 12 C dX8_hurry_7 (by decide) ?_
    refine yr_aload_n 13 C dX8_hurry_12 rfl rfl rfl ?_
    refine yr_get 16 C dX8_hurry_13 fl_X8_38 (rx0 hR) rfl rfl ?_
    refine yr_get 19 C dX8_hurry_16 fl_X8_179 (rx15 hR) rfl rfl ?_
    refine yr_if_eq 25 22 C  dX8_hurry_19 (by decide) rfl (fun c19 => ?_) (fun c19 => ?_)
    · refine yr_aload_n 26 C dX8_hurry_25 rfl rfl rfl ?_
      refine yr_aload_n 27 C dX8_hurry_26 rfl rfl rfl ?_
      refine yr_get 30 C dX8_hurry_27 fl_X8_56 (rx0 hR) rfl rfl ?_
      refine yr_acmp_ne 35 33 C (x := some (B 6 j)) (y := xr (B 6) (S 34 0)) dX8_hurry_30 (by decide) rfl (fun c30 => ?_) (fun c30 => ?_)
      · refine yr_aload_n 36 C dX8_hurry_35 rfl rfl rfl ?_
        refine yr_aload_n 37 C dX8_hurry_36 rfl rfl rfl ?_
        refine xx_put 40 C dX8_hurry_37 fp_X8_69 (rx0 hR) (Nat.le_of_ble_eq_true rfl) rfl rfl (ru0_14 hR (nI j) (.ref (B 6 j)) (by rw [xr_nI (by omega)]; rfl)) rfl (fun h hR => ?_)
        refine yr_iconst 41 C (1) dX8_hurry_40 rfl rfl ?_
        refine yr_iret C dX8_hurry_41 hr (Nat.le_of_ble_eq_true rfl) (Nat.le_of_ble_eq_true rfl) ?_
        have a1 : ¬ nI j = S 34 0 := fun z => c30 (by rw [← z, xr_nI (by omega)])
        exact ⟨by simp [sp_hurry, e1, c19, a1], by simpa [sp_hurry, e1, c19, a1] using hR⟩
      · refine yr_iconst 34 C (0) dX8_hurry_33 rfl rfl ?_
        refine yr_iret C dX8_hurry_34 hr (Nat.le_of_ble_eq_true rfl) (Nat.le_of_ble_eq_true rfl) ?_
        have a1 : nI j = S 34 0 := by
          rcases xr_cases (f := B 6) (by omega) h12 with ⟨g1, g2⟩ | ⟨z, hz, g1, g2⟩
          · rw [g2] at c30; cases c30
          · rw [g2] at c30
            rw [g1, (hR.2.1 6 j 6 z hj hz (Option.some.inj c30)).2]
        rw [a1] at e1 ⊢
        exact ⟨by simp [sp_hurry, e1, c19], by simpa [sp_hurry, e1, c19] using hR⟩
    · refine yr_bipush 24 C (-3) dX8_hurry_22 rfl rfl ?_
      refine yr_iret C dX8_hurry_24 hr (Nat.le_of_ble_eq_true rfl) (Nat.le_of_ble_eq_true rfl) ?_
      have c8 : ¬ S 44 0 ≤ 0 := by
        rcases h26 with e | ⟨e, -⟩ | ⟨e, -⟩
        · exact absurd e c19
        · rw [e]; decide
        · rw [e]; decide
      exact ⟨by simp [sp_hurry, e1, c8], by simpa [sp_hurry, e1, c8] using hR⟩
set_option maxHeartbeats 4000000 in
set_option maxRecDepth 100000 in
theorem xc_was (q n : Int32) (hI : mI S (N 0) (N 1) (N 2) (N 3) (N 4) t) (ht : t < 2 ^ 20) (hlf : lf = S 5) (h : yH) (hR : RX dA t0 (S) lf mc cap B N h) : yM (yZ t0 mi D dA) D yX8_was cX8_was 4 (some .int) 4 0 0 [.ref (B 0 0), .int q, .int n] h (fun r h' => r = some (.int (sp_was S q n).1) ∧ RX dA t0 ((sp_was S q n).2) lf mc cap B N h') := by
  refine yM_of (yZ_ok t0 mi D dA) (by decide) rfl (Nat.le_of_ble_eq_true rfl) ?_
  intro p l e s m args below meth c A C hr hin
  show yW p l e (yR 4 0 0) s m args below meth c 4 D A 0 0 _ 0 [some (.ref (B 0 0)), some (.int q), some (.int n), none] [] h
  have h0 : S 1 0 = nI (N 0) ∧ N 0 ≤ 8 := hI 0
  have h1 : S 17 0 = nI (N 1) ∧ N 1 ≤ 6 := hI 1
  have h2 : S 19 0 = nI (N 2) ∧ N 2 ≤ 12 := hI 2
  have h5 : S 0 0 = nI t := hI 5
  have hB := mB_of_mI hI ht
  refine yr_aload_n 1 C dX8_was_0 rfl rfl rfl ?_
  refine yr_iload_n 2 C dX8_was_1 rfl rfl ?_
  refine yr_V1v 5 C (xc_phaseAt _ h0 _ hR) dX8_was_2 mt_X8_phaseAt mv_X8_phaseAt ml_X8_91 (rx0 hR) rfl (Nat.le_of_ble_eq_true rfl) (Nat.le_of_ble_eq_true rfl) (Nat.le_of_ble_eq_true rfl) (Nat.le_of_ble_eq_true rfl) (Nat.le_of_ble_eq_true rfl) rfl (fun h hR => ?_)
  rcases ph_cases (B := B) hI q with ⟨e1, e2⟩ | ⟨j, hj, rfl, e1, e2⟩
  · rw [e2]
    refine yr_astore3 6 C dX8_was_5 rfl (by decide) rfl ?_
    refine yr_aload_n 7 C dX8_was_6 rfl rfl rfl ?_
    refine yr_ifnull_n 20 C dX8_was_7 (by decide) ?_
    refine yr_iconst 21 C (-1) dX8_was_20 rfl rfl ?_
    refine yr_iret C dX8_was_21 hr (Nat.le_of_ble_eq_true rfl) (Nat.le_of_ble_eq_true rfl) ?_
    exact ⟨by simp [sp_was, e1], hR⟩
  · rw [e2]
    have ej : ix (nI j) = j := ix_nI (by omega)
    refine yr_astore3 6 C dX8_was_5 rfl (by decide) rfl ?_
    refine yr_aload_n 7 C dX8_was_6 rfl rfl rfl ?_
    refine yr_ifnull_r 10 C dX8_was_7 rfl ?_
    refine yr_iload_n 11 C dX8_was_10 rfl rfl ?_
    refine yr_iconst 12 C (0) dX8_was_11 rfl rfl ?_
    refine yr_bipush 14 C (60) dX8_was_12 rfl rfl ?_
    refine yr_S3v 17 C (xc_isWithin _ _ _ _ hR) dX8_was_14 mt_X8_isWithin ms_X8_isWithin ml_X8_95 (Nat.le_of_ble_eq_true rfl) (Nat.le_of_ble_eq_true rfl) (Nat.le_of_ble_eq_true rfl) (Nat.le_of_ble_eq_true rfl) (Nat.le_of_ble_eq_true rfl) rfl (fun h e => ?_)
    subst e
    refine yb_ne 22 20 C  dX8_was_17 (by decide) rfl (fun c17 => ?_) (fun c17 => ?_)
    · obtain ⟨k, hk, rfl⟩ := m_in_3 (k := 60) (by decide) c17
      have ek : ix (nI k) = k := ix_nI (by omega)
      have et : ix (S 0 0) = t := by rw [h5]; exact ix_nI (by omega)
      refine yr_iload_n 23 C dX8_was_22 rfl rfl ?_
      refine yr_aload_n 24 C dX8_was_23 rfl rfl rfl ?_
      refine yr_get 27 C dX8_was_24 fl_X8_49 (rx0 hR) rfl rfl ?_
      refine yr_icmp_ge 45 30 C  dX8_was_27 (by decide) rfl (fun c27 => ?_) (fun c27 => ?_)
      · refine yr_bipush 47 C (-5) dX8_was_45 rfl rfl ?_
        refine yr_iret C dX8_was_47 hr (Nat.le_of_ble_eq_true rfl) (Nat.le_of_ble_eq_true rfl) ?_
        have a1 : ¬ nI k < S 0 0 := Int32.not_lt.mpr c27
        exact ⟨by simp [sp_was, e1, c17, a1], hR⟩
      · have hkt : k < t := by
          rw [h5] at c27
          rcases Nat.lt_or_ge k t with q | q
          · exact q
          · exact absurd (nI_le q (by omega)) c27
        refine yr_aload_n 31 C dX8_was_30 rfl rfl rfl ?_
        refine yr_aload_n 32 C dX8_was_31 rfl rfl rfl ?_
        refine yr_get 35 C dX8_was_32 fl_X8_49 (rx0 hR) rfl rfl ?_
        refine yr_iconst 36 C (1) dX8_was_35 rfl rfl ?_
        refine yr_isub 37 C dX8_was_36 rfl ?_
        refine yr_iload_n 38 C dX8_was_37 rfl rfl ?_
        refine yr_isub 39 C dX8_was_38 rfl ?_
        rw [h5, show nI t - 1 - nI k = nI (t - 1 - k) from by rw [show (1 : Int32) = nI 1 from rfl, pk_sub (by omega), pk_sub (by omega)]]
        refine yr_V1v 42 C (xc_lightBehind _ _ hj (by omega) _ hR) dX8_was_39 mt_X6_lightBehind mv_X6_lightBehind ml_X8_203 (rx3 hR hj) rfl (Nat.le_of_ble_eq_true rfl) (Nat.le_of_ble_eq_true rfl) (Nat.le_of_ble_eq_true rfl) (Nat.le_of_ble_eq_true rfl) (Nat.le_of_ble_eq_true rfl) rfl (fun h hR => ?_)
        refine yr_goto 47 C dX8_was_42 (by decide) ?_
        refine yr_iret C dX8_was_47 hr (Nat.le_of_ble_eq_true rfl) (Nat.le_of_ble_eq_true rfl) ?_
        have a1 : nI k < S 0 0 := Int32.not_le.mp c27
        exact ⟨by simp [sp_was, e1, c17, a1, et, ek, ej], hR⟩
    · refine yr_iconst 21 C (-1) dX8_was_20 rfl rfl ?_
      refine yr_iret C dX8_was_21 hr (Nat.le_of_ble_eq_true rfl) (Nat.le_of_ble_eq_true rfl) ?_
      exact ⟨by simp [sp_was, e1, c17], hR⟩
set_option maxHeartbeats 4000000 in
set_option maxRecDepth 100000 in
theorem xc_length (q : Int32) (hI : mI S (N 0) (N 1) (N 2) (N 3) (N 4) t) (ht : t < 2 ^ 20) (hlf : lf = S 5) (h : yH) (hR : RX dA t0 (S) lf mc cap B N h) : yM (yZ t0 mi D dA) D yX8_length cX8_length 3 (some .int) 4 0 0 [.ref (B 0 0), .int q] h (fun r h' => r = some (.int (sp_length S q).1) ∧ RX dA t0 ((sp_length S q).2) lf mc cap B N h') := by
  refine yM_of (yZ_ok t0 mi D dA) (by decide) rfl (Nat.le_of_ble_eq_true rfl) ?_
  intro p l e s m args below meth c A C hr hin
  show yW p l e (yR 4 0 0) s m args below meth c 3 D A 0 0 _ 0 [some (.ref (B 0 0)), some (.int q), none] [] h
  have h0 : S 1 0 = nI (N 0) ∧ N 0 ≤ 8 := hI 0
  have h1 : S 17 0 = nI (N 1) ∧ N 1 ≤ 6 := hI 1
  have h2 : S 19 0 = nI (N 2) ∧ N 2 ≤ 12 := hI 2
  have h5 : S 0 0 = nI t := hI 5
  have hB := mB_of_mI hI ht
  refine yr_aload_n 1 C dX8_length_0 rfl rfl rfl ?_
  refine yr_iload_n 2 C dX8_length_1 rfl rfl ?_
  refine yr_V1v 5 C (xc_detectorAt _ h2 _ hR) dX8_length_2 mt_X8_detectorAt mv_X8_detectorAt ml_X8_136 (rx0 hR) rfl (Nat.le_of_ble_eq_true rfl) (Nat.le_of_ble_eq_true rfl) (Nat.le_of_ble_eq_true rfl) (Nat.le_of_ble_eq_true rfl) (Nat.le_of_ble_eq_true rfl) rfl (fun h hR => ?_)
  rcases dt_cases (B := B) hI q with ⟨e1, e2⟩ | ⟨j, hj, rfl, e1, e2⟩
  · rw [e2]
    refine yr_astore2 6 C dX8_length_5 rfl (by decide) rfl ?_
    refine yr_aload_n 7 C dX8_length_6 rfl rfl rfl ?_
    refine yr_ifnonnull_n 10 C dX8_length_7 rfl ?_
    refine yr_iconst 11 C (-1) dX8_length_10 rfl rfl ?_
    refine yr_iret C dX8_length_11 hr (Nat.le_of_ble_eq_true rfl) (Nat.le_of_ble_eq_true rfl) ?_
    exact ⟨by simp [sp_length, e1], hR⟩
  · rw [e2]
    have ej : ix (nI j) = j := ix_nI (by omega)
    refine yr_astore2 6 C dX8_length_5 rfl (by decide) rfl ?_
    refine yr_aload_n 7 C dX8_length_6 rfl rfl rfl ?_
    refine yr_ifnonnull_r 12 C dX8_length_7 (by decide) ?_
    refine yr_aload_n 13 C dX8_length_12 rfl rfl rfl ?_
    refine yr_V0v 16 C (xc_isCutOff _ hj _ hR) dX8_length_13 mt_X1_isCutOff mv_X1_isCutOff ml_X8_140 (hR.1 8 j hj) rfl (Nat.le_of_ble_eq_true rfl) (Nat.le_of_ble_eq_true rfl) (Nat.le_of_ble_eq_true rfl) (Nat.le_of_ble_eq_true rfl) (Nat.le_of_ble_eq_true rfl) rfl (fun h hR => ?_)
    refine yb_eq 24 19 C  dX8_length_16 (by decide) rfl (fun c16 => ?_) (fun c16 => ?_)
    · have hc : ¬ S 20 j < 0 := of_decide_eq_false c16
      refine yr_aload_n 25 C dX8_length_24 rfl rfl rfl ?_
      refine yr_get 28 C dX8_length_25 fl_X8_150 (rx8 hR hj hc) rfl rfl ?_
      refine yr_iret C dX8_length_28 hr (Nat.le_of_ble_eq_true rfl) (Nat.le_of_ble_eq_true rfl) ?_
      exact ⟨by simp [sp_length, e1, ej], hR⟩
    · refine yr_bipush 21 C (-5) dX8_length_19 rfl rfl ?_
      refine yr_goto 28 C dX8_length_21 (by decide) ?_
      refine yr_iret C dX8_length_28 hr (Nat.le_of_ble_eq_true rfl) (Nat.le_of_ble_eq_true rfl) ?_
      have a1 : S 20 j = -5 := cO_neg (by decide) ((show ∀ d, d < N 2 → cO (S 20 d) 201 from hI 8) j hj) (of_decide_eq_true c16)
      exact ⟨by simp [sp_length, e1, ej, a1], hR⟩
set_option maxHeartbeats 4000000 in
set_option maxRecDepth 100000 in
theorem xc_finding (q : Int32) (hI : mI S (N 0) (N 1) (N 2) (N 3) (N 4) t) (ht : t < 2 ^ 20) (hlf : lf = S 5) (h : yH) (hR : RX dA t0 (S) lf mc cap B N h) : yM (yZ t0 mi D dA) D yX8_finding cX8_finding 2 (some .int) 0 0 0 [.ref (B 0 0), .int q] h (fun r h' => r = some (.int (sp_finding S q).1) ∧ RX dA t0 ((sp_finding S q).2) lf mc cap B N h') := by
  refine yM_of (yZ_ok t0 mi D dA) (by decide) rfl (Nat.le_of_ble_eq_true rfl) ?_
  intro p l e s m args below meth c A C hr hin
  show yW p l e (yR 0 0 0) s m args below meth c 2 D A 0 0 _ 0 [some (.ref (B 0 0)), some (.int q)] [] h
  have h0 : S 1 0 = nI (N 0) ∧ N 0 ≤ 8 := hI 0
  have h1 : S 17 0 = nI (N 1) ∧ N 1 ≤ 6 := hI 1
  have h2 : S 19 0 = nI (N 2) ∧ N 2 ≤ 12 := hI 2
  have h5 : S 0 0 = nI t := hI 5
  have hB := mB_of_mI hI ht
  refine yr_iload_n 1 C dX8_finding_0 rfl rfl ?_
  by_cases z1_0 : q = 0
  · rw [z1_0]
    refine yr_look (off := 27) 28 C dX8_finding_1 rfl rfl (by decide) ?_
    refine yr_aload_n 29 C dX8_finding_28 rfl rfl rfl ?_
    refine yr_get 32 C dX8_finding_29 fl_X8_31 (rx0 hR) rfl rfl ?_
    refine yr_get 35 C dX8_finding_32 fl_X8_265 (rx13 hR) rfl rfl ?_
    refine yr_iret C dX8_finding_35 hr (Nat.le_of_ble_eq_true rfl) (Nat.le_of_ble_eq_true rfl) ?_
    refine ⟨?_, hR⟩
    simp [sp_finding, z1_0]
  by_cases z1_1 : q = 1
  · rw [z1_1]
    refine yr_look (off := 35) 36 C dX8_finding_1 rfl rfl (by decide) ?_
    refine yr_aload_n 37 C dX8_finding_36 rfl rfl rfl ?_
    refine yr_get 40 C dX8_finding_37 fl_X8_31 (rx0 hR) rfl rfl ?_
    refine yr_get 43 C dX8_finding_40 fl_X8_268 (rx13 hR) rfl rfl ?_
    refine yr_iret C dX8_finding_43 hr (Nat.le_of_ble_eq_true rfl) (Nat.le_of_ble_eq_true rfl) ?_
    refine ⟨?_, hR⟩
    simp [sp_finding, z1_0, z1_1]
  have a0 : ¬ 0 = q.toInt := fun z => z1_0 (Int32.toInt_inj.mp z.symm)
  have a1 : ¬ 1 = q.toInt := fun z => z1_1 (Int32.toInt_inj.mp z.symm)
  refine yr_look (x := q) (off := 43) 44 C dX8_finding_1 rfl (by simp [Op.lookupswitch.offset, a0, a1]) (by decide) ?_
  refine yr_iconst 45 C (-1) dX8_finding_44 rfl rfl ?_
  refine yr_iret C dX8_finding_45 hr (Nat.le_of_ble_eq_true rfl) (Nat.le_of_ble_eq_true rfl) ?_
  refine ⟨?_, hR⟩
  simp [sp_finding, z1_0, z1_1]
set_option maxHeartbeats 4000000 in
set_option maxRecDepth 100000 in
theorem xc_phaseIn (g i : Nat) (hg : g < N 1) (hi : i < 4) (hB : mB S (N 0) (N 1) nd nr t) (h : yH) (hR : RX dA t0 (S) lf mc cap B N h) : yM (yZ t0 mi D dA) D yX7_phaseIn cX7_phaseIn 2 (some (.object "CrossingKeeper$Phase")) 0 0 0 [.ref (B 6 g), .int (nI i)] h (fun r h' => r = some (va_rf (xr (B 3) (S 18 (4 * g + i)))) ∧ RX dA t0 (S) lf mc cap B N h') := by
  refine yM_of (yZ_ok t0 mi D dA) (by decide) rfl (Nat.le_of_ble_eq_true rfl) ?_
  intro p l e s m args below meth c A C hr hin
  show yW p l e (yR 0 0 0) s m args below meth c 2 D A 0 0 _ 0 [some (.ref (B 6 g)), some (.int (nI i))] [] h
  have n0 : N 0 ≤ 8 := (show S 1 0 = nI (N 0) ∧ N 0 ≤ 8 from hB 0).2
  have n1 : N 1 ≤ 6 := (show S 17 0 = nI (N 1) ∧ N 1 ≤ 6 from hB 1).2
  have q7 : cO (S 18 (4 * g + i)) (N 0) := (show ∀ s, s < N 1 → ∀ k, k < 4 → cO (S 18 (4 * s + k)) (N 0) from hB 7) g hg i hi
  refine yr_iload_n 1 C dX7_phaseIn_0 rfl rfl ?_
  refine yr_if_lt 22 4 C  dX7_phaseIn_1 (by decide) rfl (fun c1 => ?_) (fun c1 => ?_)
  · exact absurd c1 (nI_pos (by omega))
  refine yr_iload_n 5 C dX7_phaseIn_4 rfl rfl ?_
  refine yr_aload_n 6 C dX7_phaseIn_5 rfl rfl rfl ?_
  refine yr_get 9 C dX7_phaseIn_6 fl_X7_11 (rx6 hR hg) rfl rfl ?_
  refine yr_alen 10 4 C (4) dX7_phaseIn_9 (rx7 hR hg) rfl rfl rfl ?_
  refine yr_icmp_ge 22 13 C  dX7_phaseIn_10 (by decide) rfl (fun c10 => ?_) (fun c10 => ?_)
  · exact absurd c10 (nI_ge (b := 4) hi (by decide))
  refine yr_aload_n 14 C dX7_phaseIn_13 rfl rfl rfl ?_
  refine yr_get 17 C dX7_phaseIn_14 fl_X7_11 (rx6 hR hg) rfl rfl ?_
  refine yr_iload_n 18 C dX7_phaseIn_17 rfl rfl ?_
  refine xx_place 19 C hR hg hi n0 q7 dX7_phaseIn_18 rfl (fun en => ?_) (fun z hz ez => ?_)
  · refine yr_goto 23 C dX7_phaseIn_19 (by decide) ?_
    refine yr_aret C dX7_phaseIn_23 hr (Or.inl ⟨_, rfl⟩) rfl (Nat.le_of_ble_eq_true rfl) (Nat.le_of_ble_eq_true rfl) ?_
    refine ⟨?_, hR⟩
    rw [en]
    rfl
  · refine yr_goto 23 C dX7_phaseIn_19 (by decide) ?_
    refine yr_aret C dX7_phaseIn_23 hr (Or.inl ⟨_, rfl⟩) rfl (Nat.le_of_ble_eq_true rfl) (Nat.le_of_ble_eq_true rfl) ?_
    refine ⟨?_, hR⟩
    rw [ez, xr_nI (by omega)]
    rfl
set_option maxHeartbeats 4000000 in
set_option maxRecDepth 100000 in
theorem xc_place (q n : Int32) (hI : mI S (N 0) (N 1) (N 2) (N 3) (N 4) t) (ht : t < 2 ^ 20) (hlf : lf = S 5) (h : yH) (hR : RX dA t0 (S) lf mc cap B N h) : yM (yZ t0 mi D dA) D yX8_place cX8_place 5 (some .int) 4 0 0 [.ref (B 0 0), .int q, .int n] h (fun r h' => r = some (.int (sp_place S q n).1) ∧ RX dA t0 ((sp_place S q n).2) lf mc cap B N h') := by
  refine yM_of (yZ_ok t0 mi D dA) (by decide) rfl (Nat.le_of_ble_eq_true rfl) ?_
  intro p l e s m args below meth c A C hr hin
  show yW p l e (yR 4 0 0) s m args below meth c 5 D A 0 0 _ 0 [some (.ref (B 0 0)), some (.int q), some (.int n), none, none] [] h
  have h0 : S 1 0 = nI (N 0) ∧ N 0 ≤ 8 := hI 0
  have h1 : S 17 0 = nI (N 1) ∧ N 1 ≤ 6 := hI 1
  have h2 : S 19 0 = nI (N 2) ∧ N 2 ≤ 12 := hI 2
  have h5 : S 0 0 = nI t := hI 5
  have hB := mB_of_mI hI ht
  refine yr_aload_n 1 C dX8_place_0 rfl rfl rfl ?_
  refine yr_iload_n 2 C dX8_place_1 rfl rfl ?_
  refine yr_V1v 5 C (xc_stageAt _ h1 _ hR) dX8_place_2 mt_X8_stageAt mv_X8_stageAt ml_X8_175 (rx0 hR) rfl (Nat.le_of_ble_eq_true rfl) (Nat.le_of_ble_eq_true rfl) (Nat.le_of_ble_eq_true rfl) (Nat.le_of_ble_eq_true rfl) (Nat.le_of_ble_eq_true rfl) rfl (fun h hR => ?_)
  rcases st_cases (B := B) hI q with ⟨e1, e2⟩ | ⟨j, hj, rfl, e1, e2⟩
  · rw [e2]
    refine yr_astore3 6 C dX8_place_5 rfl (by decide) rfl ?_
    refine yr_aload_n 7 C dX8_place_6 rfl rfl rfl ?_
    refine yr_ifnull_n 19 C dX8_place_7 (by decide) ?_
    refine yr_iconst 20 C (-1) dX8_place_19 rfl rfl ?_
    refine yr_iret C dX8_place_20 hr (Nat.le_of_ble_eq_true rfl) (Nat.le_of_ble_eq_true rfl) ?_
    exact ⟨by simp [sp_place, e1], by simpa [sp_place, e1] using hR⟩
  · rw [e2]
    have ej : ix (nI j) = j := ix_nI (by omega)
    refine yr_astore3 6 C dX8_place_5 rfl (by decide) rfl ?_
    refine yr_aload_n 7 C dX8_place_6 rfl rfl rfl ?_
    refine yr_ifnull_r 10 C dX8_place_7 rfl ?_
    refine yr_iload_n 11 C dX8_place_10 rfl rfl ?_
    refine yr_iconst 12 C (0) dX8_place_11 rfl rfl ?_
    refine yr_iconst 13 C (3) dX8_place_12 rfl rfl ?_
    refine yr_S3v 16 C (xc_isWithin _ _ _ _ hR) dX8_place_13 mt_X8_isWithin ms_X8_isWithin ml_X8_95 (Nat.le_of_ble_eq_true rfl) (Nat.le_of_ble_eq_true rfl) (Nat.le_of_ble_eq_true rfl) (Nat.le_of_ble_eq_true rfl) (Nat.le_of_ble_eq_true rfl) rfl (fun h e => ?_)
    subst e
    refine yb_ne 21 19 C  dX8_place_16 (by decide) rfl (fun c16 => ?_) (fun c16 => ?_)
    · obtain ⟨k, hk, rfl⟩ := m_in_3 (k := 3) (by decide) c16
      have ek : ix (nI k) = k := ix_nI (by omega)
      have q9 : cO (S 18 (4 * j + k)) (N 0) := (show ∀ s, s < N 1 → ∀ k, k < 4 → cO (S 18 (4 * s + k)) (N 0) from hI 9) j hj k (by omega)
      refine yr_aload_n 22 C dX8_place_21 rfl rfl rfl ?_
      refine yr_iload_n 23 C dX8_place_22 rfl rfl ?_
      refine yr_V1v 26 C (xc_phaseIn _ _ hj (by omega) hB _ hR) dX8_place_23 mt_X7_phaseIn mv_X7_phaseIn ml_X8_215 (rx6 hR hj) rfl (Nat.le_of_ble_eq_true rfl) (Nat.le_of_ble_eq_true rfl) (Nat.le_of_ble_eq_true rfl) (Nat.le_of_ble_eq_true rfl) (Nat.le_of_ble_eq_true rfl) rfl (fun h hR => ?_)
      rcases xr_cases (f := B 3) (by omega) q9 with ⟨g1, g2⟩ | ⟨z, hz, g1, g2⟩
      · rw [g2]
        refine yr_astore4 28 C dX8_place_26 rfl (by decide) rfl ?_
        refine yr_aload 30 C dX8_place_28 rfl rfl rfl ?_
        refine yr_ifnull_n 39 C dX8_place_30 (by decide) ?_
        refine yr_aload_n 40 C dX8_place_39 rfl rfl rfl ?_
        refine yr_get 43 C dX8_place_40 fl_X8_31 (rx0 hR) rfl rfl ?_
        refine yr_iconst 44 C (4) dX8_place_43 rfl rfl ?_
        refine yr_bipush 46 C (-5) dX8_place_44 rfl rfl ?_
        refine yr_V2u 49 C (xc_add 4 (by decide) _ _ hR) dX8_place_46 mt_X3_add mv_X3_add ml_X8_218 (rx13 hR) rfl (Nat.le_of_ble_eq_true rfl) (Nat.le_of_ble_eq_true rfl) (Nat.le_of_ble_eq_true rfl) (Nat.le_of_ble_eq_true rfl) (Nat.le_of_ble_eq_true rfl) rfl (fun h hR => ?_)
        refine yr_bipush 51 C (-5) dX8_place_49 rfl rfl ?_
        refine yr_iret C dX8_place_51 hr (Nat.le_of_ble_eq_true rfl) (Nat.le_of_ble_eq_true rfl) ?_
        have a1 : ¬ (0 : Int32) ≤ -5 := by decide
        exact ⟨by simp [sp_place, e1, c16, ej, ek, g1], by simpa [sp_place, e1, c16, ej, ek, g1, a1] using hR⟩
      · rw [g2]
        refine yr_astore4 28 C dX8_place_26 rfl (by decide) rfl ?_
        refine yr_aload 30 C dX8_place_28 rfl rfl rfl ?_
        refine yr_ifnull_r 33 C dX8_place_30 rfl ?_
        refine yr_aload 35 C dX8_place_33 rfl rfl rfl ?_
        refine yr_get 38 C dX8_place_35 fl_X8_88 (rx3 hR hz) rfl rfl ?_
        refine yr_iret C dX8_place_38 hr (Nat.le_of_ble_eq_true rfl) (Nat.le_of_ble_eq_true rfl) ?_
        have a1 : 0 ≤ nI z := nI_pos' (by omega)
        exact ⟨by simp [sp_place, e1, c16, ej, ek, g1], by simpa [sp_place, e1, c16, ej, ek, g1, a1] using hR⟩
    · refine yr_iconst 20 C (-1) dX8_place_19 rfl rfl ?_
      refine yr_iret C dX8_place_20 hr (Nat.le_of_ble_eq_true rfl) (Nat.le_of_ble_eq_true rfl) ?_
      exact ⟨by simp [sp_place, e1, c16], by simpa [sp_place, e1, c16] using hR⟩
set_option maxHeartbeats 4000000 in
set_option maxRecDepth 100000 in
theorem xc_numberOf_n   (h : yH) (hR : RX dA t0 (S) lf mc cap B N h) : yM (yZ t0 mi D dA) D yX8_numberOf cX8_numberOf 1 (some .int) 0 0 0 [.null] h (fun r h' => r = some (.int (-5)) ∧ h' = h) := by
  refine yM_of (yZ_ok t0 mi D dA) (by decide) rfl (Nat.le_of_ble_eq_true rfl) ?_
  intro p l e s m args below meth c A C hr hin
  show yW p l e (yR 0 0 0) s m args below meth c 1 D A 0 0 _ 0 [some (.null)] [] h
  refine yr_aload_n 1 C dX8_numberOf_0 rfl rfl rfl ?_
  refine yr_ifnonnull_n 4 C dX8_numberOf_1 rfl ?_
  refine yr_bipush 6 C (-5) dX8_numberOf_4 rfl rfl ?_
  refine yr_goto 13 C dX8_numberOf_6 (by decide) ?_
  refine yr_iret C dX8_numberOf_13 hr (Nat.le_of_ble_eq_true rfl) (Nat.le_of_ble_eq_true rfl) ?_
  exact ⟨rfl, rfl⟩
set_option maxHeartbeats 4000000 in
set_option maxRecDepth 100000 in
theorem xc_numberOf_s (g : Nat) (hg : g < N 1)  (h : yH) (hR : RX dA t0 (S) lf mc cap B N h) : yM (yZ t0 mi D dA) D yX8_numberOf cX8_numberOf 1 (some .int) 0 0 0 [.ref (B 6 g)] h (fun r h' => r = some (.int (nI g)) ∧ h' = h) := by
  refine yM_of (yZ_ok t0 mi D dA) (by decide) rfl (Nat.le_of_ble_eq_true rfl) ?_
  intro p l e s m args below meth c A C hr hin
  show yW p l e (yR 0 0 0) s m args below meth c 1 D A 0 0 _ 0 [some (.ref (B 6 g))] [] h
  refine yr_aload_n 1 C dX8_numberOf_0 rfl rfl rfl ?_
  refine yr_ifnonnull_r 9 C dX8_numberOf_1 (by decide) ?_
  refine yr_aload_n 10 C dX8_numberOf_9 rfl rfl rfl ?_
  refine yr_get 13 C dX8_numberOf_10 fl_X8_127 (rx6 hR hg) rfl rfl ?_
  refine yr_iret C dX8_numberOf_13 hr (Nat.le_of_ble_eq_true rfl) (Nat.le_of_ble_eq_true rfl) ?_
  exact ⟨rfl, rfl⟩
theorem xc_numberOf (x : Int32) (hx : cO x (N 1)) (hn : N 1 ≤ 6) (h : yH) (hR : RX dA t0 S lf mc cap B N h) : yM (yZ t0 mi D dA) D yX8_numberOf cX8_numberOf 1 (some .int) 0 0 0 [va_rf (xr (B 6) x)] h (fun r h' => r = some (.int x) ∧ h' = h) := by
  rcases xr_cases (f := B 6) (by omega) hx with ⟨g1, g2⟩ | ⟨z, hz, g1, g2⟩
  · rw [g2, g1]
    exact xc_numberOf_n h hR
  · rw [g2, g1]
    exact xc_numberOf_s z hz h hR
end X8
