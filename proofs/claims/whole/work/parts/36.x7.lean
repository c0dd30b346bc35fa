theorem xr_nI {f : Nat → Nat} {j : Nat} (h : j < 2 ^ 31) : xr f (nI j) = some (f j) := by
  unfold xr
  rw [if_neg (nI_pos h), ix_nI h]
theorem ph_cases {S : yS} {B : Nat → Nat → Nat} {np ns nd no nr t : Nat} (hI : mI S np ns nd no nr t) (q : Int32) : (m_isP S q = false ∧ (if m_isP S q then some (B 3 (ix q)) else none) = none) ∨ ∃ j : Nat, j < np ∧ q = nI j ∧ m_isP S q = true ∧ (if m_isP S q then some (B 3 (ix q)) else none) = some (B 3 j) := by
  cases hq : m_isP S q with
  | false => exact Or.inl ⟨rfl, rfl⟩
  | true =>
    have h0 : S 1 0 = nI np ∧ np ≤ 8 := hI 0
    obtain ⟨j, hj, rfl⟩ := m_isP_ix hI hq
    exact Or.inr ⟨j, hj, rfl, rfl, by simp [ix_nI (show j < 2 ^ 31 by omega)]⟩
theorem st_cases {S : yS} {B : Nat → Nat → Nat} {np ns nd no nr t : Nat} (hI : mI S np ns nd no nr t) (q : Int32) : (m_isS S q = false ∧ (if m_isS S q then some (B 6 (ix q)) else none) = none) ∨ ∃ j : Nat, j < ns ∧ q = nI j ∧ m_isS S q = true ∧ (if m_isS S q then some (B 6 (ix q)) else none) = some (B 6 j) := by
  cases hq : m_isS S q with
  | false => exact Or.inl ⟨rfl, rfl⟩
  | true =>
    have h0 : S 17 0 = nI ns ∧ ns ≤ 6 := hI 1
    obtain ⟨j, hj, rfl⟩ := m_isS_ix hI hq
    exact Or.inr ⟨j, hj, rfl, rfl, by simp [ix_nI (show j < 2 ^ 31 by omega)]⟩
theorem dt_cases {S : yS} {B : Nat → Nat → Nat} {np ns nd no nr t : Nat} (hI : mI S np ns nd no nr t) (q : Int32) : (m_isD S q = false ∧ (if m_isD S q then some (B 8 (ix q)) else none) = none) ∨ ∃ j : Nat, j < nd ∧ q = nI j ∧ m_isD S q = true ∧ (if m_isD S q then some (B 8 (ix q)) else none) = some (B 8 j) := by
  cases hq : m_isD S q with
  | false => exact Or.inl ⟨rfl, rfl⟩
  | true =>
    have h0 : S 19 0 = nI nd ∧ nd ≤ 12 := hI 2
    obtain ⟨j, hj, rfl⟩ := m_isD_ix hI hq
    exact Or.inr ⟨j, hj, rfl, rfl, by simp [ix_nI (show j < 2 ^ 31 by omega)]⟩
section X7
variable {D : va_G} {dA : Nat → ClassId} {t0 mi : Nat} {S : yS} {lf mc : Nat → Int32} {cap : Nat → Nat} {B : Nat → Nat → Nat} {N : Nat → Nat}
variable {t : Nat}
set_option maxHeartbeats 4000000 in
set_option maxRecDepth 100000 in
theorem xc_light (q : Int32) (hI : mI S (N 0) (N 1) (N 2) (N 3) (N 4) t) (ht : t < 2 ^ 20) (hlf : lf = S 5) (h : yH) (hR : RX dA t0 (S) lf mc cap B N h) : yM (yZ t0 mi D dA) D yX8_light cX8_light 3 (some .int) 4 0 0 [.ref (B 0 0), .int q] h (fun r h' => r = some (.int (sp_light S q).1) ∧ RX dA t0 ((sp_light S q).2) lf mc cap B N h') := by
  refine yM_of (yZ_ok t0 mi D dA) (by decide) rfl (Nat.le_of_ble_eq_true rfl) ?_
  intro p l e s m args below meth c A C hr hin
  show yW p l e (yR 4 0 0) s m args below meth c 3 D A 0 0 _ 0 [some (.ref (B 0 0)), some (.int q), none] [] h
  have h0 : S 1 0 = nI (N 0) ∧ N 0 ≤ 8 := hI 0
  have h1 : S 17 0 = nI (N 1) ∧ N 1 ≤ 6 := hI 1
  have h2 : S 19 0 = nI (N 2) ∧ N 2 ≤ 12 := hI 2
  have h5 : S 0 0 = nI t := hI 5
  have hB := mB_of_mI hI ht
  refine yr_aload_n 1 C dX8_light_0 rfl rfl rfl ?_
  refine yr_iload_n 2 C dX8_light_1 rfl rfl ?_
  refine yr_V1v 5 C (xc_phaseAt _ h0 _ hR) dX8_light_2 mt_X8_phaseAt mv_X8_phaseAt ml_X8_91 (rx0 hR) rfl (Nat.le_of_ble_eq_true rfl) (Nat.le_of_ble_eq_true rfl) (Nat.le_of_ble_eq_true rfl) (Nat.le_of_ble_eq_true rfl) (Nat.le_of_ble_eq_true rfl) rfl (fun h hR => ?_)
  rcases ph_cases (B := B) hI q with ⟨e1, e2⟩ | ⟨j, hj, rfl, e1, e2⟩
  · rw [e2]
    refine yr_astore2 6 C dX8_light_5 rfl (by decide) rfl ?_
    refine yr_aload_n 7 C dX8_light_6 rfl rfl rfl ?_
    refine yr_ifnonnull_n 10 C dX8_light_7 rfl ?_
    refine yr_iconst 11 C (-1) dX8_light_10 rfl rfl ?_
    refine yr_goto 18 C dX8_light_11 (by decide) ?_
    refine yr_iret C dX8_light_18 hr (Nat.le_of_ble_eq_true rfl) (Nat.le_of_ble_eq_true rfl) ?_
    exact ⟨by simp [sp_light, e1], hR⟩
  · rw [e2]
    have ej : ix (nI j) = j := ix_nI (by omega)
    refine yr_astore2 6 C dX8_light_5 rfl (by decide) rfl ?_
    refine yr_aload_n 7 C dX8_light_6 rfl rfl rfl ?_
    refine yr_ifnonnull_r 14 C dX8_light_7 (by decide) ?_
    refine yr_aload_n 15 C dX8_light_14 rfl rfl rfl ?_
    refine yr_get 18 C dX8_light_15 fl_X8_169 (rx3 hR hj) rfl rfl ?_
    refine yr_iret C dX8_light_18 hr (Nat.le_of_ble_eq_true rfl) (Nat.le_of_ble_eq_true rfl) ?_
    exact ⟨by simp [sp_light, e1, ej], hR⟩
set_option maxHeartbeats 4000000 in
set_option maxRecDepth 100000 in
theorem xc_alarm  (hI : mI S (N 0) (N 1) (N 2) (N 3) (N 4) t) (ht : t < 2 ^ 20) (hlf : lf = S 5) (h : yH) (hR : RX dA t0 (S) lf mc cap B N h) : yM (yZ t0 mi D dA) D yX8_alarm cX8_alarm 1 (some .int) 0 0 0 [.ref (B 0 0)] h (fun r h' => r = some (.int (sp_alarm S).1) ∧ RX dA t0 ((sp_alarm S).2) lf mc cap B N h') := by
  refine yM_of (yZ_ok t0 mi D dA) (by decide) rfl (Nat.le_of_ble_eq_true rfl) ?_
  intro p l e s m args below meth c A C hr hin
  show yW p l e (yR 0 0 0) s m args below meth c 1 D A 0 0 _ 0 [some (.ref (B 0 0))] [] h
  have h0 : S 1 0 = nI (N 0) ∧ N 0 ≤ 8 := hI 0
  have h1 : S 17 0 = nI (N 1) ∧ N 1 ≤ 6 := hI 1
  have h2 : S 19 0 = nI (N 2) ∧ N 2 ≤ 12 := hI 2
  have h5 : S 0 0 = nI t := hI 5
  have hB := mB_of_mI hI ht
  have h26 := (show S 44 0 = 0 ∨ (S 44 0 = 1 ∧ ∃ u, S 42 0 = nI u ∧ u < t ∧ t ≤ u + 3) ∨ (S 44 0 = 2 ∧ ∃ u, S 42 0 = nI u ∧ u + 3 < t) from hI 26)
  refine yr_aload_n 1 C dX8_alarm_0 rfl rfl rfl ?_
  refine yr_get 4 C dX8_alarm_1 fl_X8_38 (rx0 hR) rfl rfl ?_
  refine yr_get 7 C dX8_alarm_4 fl_X8_179 (rx15 hR) rfl rfl ?_
  refine yr_if_eq 13 10 C  dX8_alarm_7 (by decide) rfl (fun c7 => ?_) (fun c7 => ?_)
  · refine yr_aload_n 14 C dX8_alarm_13 rfl rfl rfl ?_
    refine yr_get 17 C dX8_alarm_14 fl_X8_38 (rx0 hR) rfl rfl ?_
    refine yr_iconst 18 C (1) dX8_alarm_17 rfl rfl ?_
    refine xx_put 21 C dX8_alarm_18 fp_X8_197 (rx15 hR) (Nat.le_of_ble_eq_true rfl) rfl rfl (ru15_4 hR _) rfl (fun h hR => ?_)
    refine yr_iconst 22 C (1) dX8_alarm_21 rfl rfl ?_
    refine yr_iret C dX8_alarm_22 hr (Nat.le_of_ble_eq_true rfl) (Nat.le_of_ble_eq_true rfl) ?_
    exact ⟨by simp [sp_alarm, c7], by simpa [sp_alarm, c7] using hR⟩
  · refine yr_bipush 12 C (-3) dX8_alarm_10 rfl rfl ?_
    refine yr_iret C dX8_alarm_12 hr (Nat.le_of_ble_eq_true rfl) (Nat.le_of_ble_eq_true rfl) ?_
    have c8 : ¬ S 44 0 ≤ 0 := by
      rcases h26 with e | ⟨e, -⟩ | ⟨e, -⟩
      · exact absurd e c7
      · rw [e]; decide
      · rw [e]; decide
    exact ⟨by simp [sp_alarm, c8], by simpa [sp_alarm, c8] using hR⟩
set_option maxHeartbeats 4000000 in
set_option maxRecDepth 100000 in
theorem xc_trace  (hI : mI S (N 0) (N 1) (N 2) (N 3) (N 4) t) (ht : t < 2 ^ 20) (hlf : lf = S 5) (h : yH) (hR : RX dA t0 (S) lf mc cap B N h) : yM (yZ t0 mi D dA) D yX8_trace cX8_trace 1 (some .int) 0 0 0 [.ref (B 0 0)] h (fun r h' => r = some (.int (sp_trace S).1) ∧ RX dA t0 ((sp_trace S).2) lf mc cap B N h') := by
  refine yM_of (yZ_ok t0 mi D dA) (by decide) rfl (Nat.le_of_ble_eq_true rfl) ?_
  intro p l e s m args below meth c A C hr hin
  show yW p l e (yR 0 0 0) s m args below meth c 1 D A 0 0 _ 0 [some (.ref (B 0 0))] [] h
  have h0 : S 1 0 = nI (N 0) ∧ N 0 ≤ 8 := hI 0
  have h1 : S 17 0 = nI (N 1) ∧ N 1 ≤ 6 := hI 1
  have h2 : S 19 0 = nI (N 2) ∧ N 2 ≤ 12 := hI 2
  have h5 : S 0 0 = nI t := hI 5
  have hB := mB_of_mI hI ht
  refine yr_aload_n 1 C dX8_trace_0 rfl rfl rfl ?_
  refine yr_get 4 C dX8_trace_1 fl_X8_45 (rx0 hR) rfl rfl ?_
  refine yr_get 7 C dX8_trace_4 fl_X8_275 (rx16 hR) rfl rfl ?_
  refine yr_iret C dX8_trace_7 hr (Nat.le_of_ble_eq_true rfl) (Nat.le_of_ble_eq_true rfl) ?_
  exact ⟨rfl, hR⟩
set_option maxHeartbeats 4000000 in
set_option maxRecDepth 100000 in
theorem xc_fault (q : Int32) (hI : mI S (N 0) (N 1) (N 2) (N 3) (N 4) t) (ht : t < 2 ^ 20) (hlf : lf = S 5) (h : yH) (hR : RX dA t0 (S) lf mc cap B N h) : yM (yZ t0 mi D dA) D yX8_fault cX8_fault 2 (some .int) 0 0 0 [.ref (B 0 0), .int q] h (fun r h' => r = some (.int (sp_fault S q).1) ∧ RX dA t0 ((sp_fault S q).2) lf mc cap B N h') := by
  refine yM_of (yZ_ok t0 mi D dA) (by decide) rfl (Nat.le_of_ble_eq_true rfl) ?_
  intro p l e s m args below meth c A C hr hin
  show yW p l e (yR 0 0 0) s m args below meth c 2 D A 0 0 _ 0 [some (.ref (B 0 0)), some (.int q)] [] h
  have h0 : S 1 0 = nI (N 0) ∧ N 0 ≤ 8 := hI 0
  have h1 : S 17 0 = nI (N 1) ∧ N 1 ≤ 6 := hI 1
  have h2 : S 19 0 = nI (N 2) ∧ N 2 ≤ 12 := hI 2
  have h5 : S 0 0 = nI t := hI 5
  have hB := mB_of_mI hI ht
  have h27 : S 43 0 = S 45 0 := hI 27
  refine yr_iload_n 1 C dX8_fault_0 rfl rfl ?_
  by_cases z1_0 : q = 0
  · rw [z1_0]
    refine yr_tabIn (off := 31) 32 C dX8_fault_1 (by decide) (by decide) rfl (by decide) ?_
    refine yr_aload_n 33 C dX8_fault_32 rfl rfl rfl ?_
    refine yr_get 36 C dX8_fault_33 fl_X8_38 (rx0 hR) rfl rfl ?_
    refine yr_get 39 C dX8_fault_36 fl_X8_271 (rx15 hR) rfl rfl ?_
    refine yr_iret C dX8_fault_39 hr (Nat.le_of_ble_eq_true rfl) (Nat.le_of_ble_eq_true rfl) ?_
    refine ⟨?_, hR⟩
    simp [sp_fault, h27, z1_0]
  by_cases z1_1 : q = 1
  · rw [z1_1]
    refine yr_tabIn (off := 39) 40 C dX8_fault_1 (by decide) (by decide) rfl (by decide) ?_
    refine yr_aload_n 41 C dX8_fault_40 rfl rfl rfl ?_
    refine yr_get 44 C dX8_fault_41 fl_X8_38 (rx0 hR) rfl rfl ?_
    refine yr_get 47 C dX8_fault_44 fl_X8_272 (rx15 hR) rfl rfl ?_
    refine yr_iret C dX8_fault_47 hr (Nat.le_of_ble_eq_true rfl) (Nat.le_of_ble_eq_true rfl) ?_
    refine ⟨?_, hR⟩
    simp [sp_fault, h27, z1_0, z1_1]
  by_cases z1_2 : q = 2
  · rw [z1_2]
    refine yr_tabIn (off := 47) 48 C dX8_fault_1 (by decide) (by decide) rfl (by decide) ?_
    refine yr_aload_n 49 C dX8_fault_48 rfl rfl rfl ?_
    refine yr_get 52 C dX8_fault_49 fl_X8_38 (rx0 hR) rfl rfl ?_
    refine yr_get 55 C dX8_fault_52 fl_X8_182 (rx15 hR) rfl rfl ?_
    refine yr_iret C dX8_fault_55 hr (Nat.le_of_ble_eq_true rfl) (Nat.le_of_ble_eq_true rfl) ?_
    refine ⟨?_, hR⟩
    simp [sp_fault, h27, z1_0, z1_1, z1_2]
  by_cases z1_3 : q = 3
  · rw [z1_3]
    refine yr_tabIn (off := 55) 56 C dX8_fault_1 (by decide) (by decide) rfl (by decide) ?_
    refine yr_aload_n 57 C dX8_fault_56 rfl rfl rfl ?_
    refine yr_get 60 C dX8_fault_57 fl_X8_38 (rx0 hR) rfl rfl ?_
    refine yr_get 63 C dX8_fault_60 fl_X8_179 (rx15 hR) rfl rfl ?_
    refine yr_iret C dX8_fault_63 hr (Nat.le_of_ble_eq_true rfl) (Nat.le_of_ble_eq_true rfl) ?_
    refine ⟨?_, hR⟩
    simp [sp_fault, h27, z1_0, z1_1, z1_2, z1_3]
  refine yr_tabOut 64 C dX8_fault_1 (sw_out 3 (by decide) (fun i hi => match i, hi with | 0, _ => z1_0 | 1, _ => z1_1 | 2, _ => z1_2 | 3, _ => z1_3 | (n + 4), q => absurd q (by omega))) (by decide) ?_
  refine yr_iconst 65 C (-1) dX8_fault_64 rfl rfl ?_
  refine yr_iret C dX8_fault_65 hr (Nat.le_of_ble_eq_true rfl) (Nat.le_of_ble_eq_true rfl) ?_
  refine ⟨?_, hR⟩
  simp [sp_fault, h27, z1_0, z1_1, z1_2, z1_3]
set_option maxHeartbeats 4000000 in
set_option maxRecDepth 100000 in
theorem xc_count (q : Int32) (hI : mI S (N 0) (N 1) (N 2) (N 3) (N 4) t) (ht : t < 2 ^ 20) (hlf : lf = S 5) (h : yH) (hR : RX dA t0 (S) lf mc cap B N h) : yM (yZ t0 mi D dA) D yX8_count cX8_count 2 (some .int) 1 0 0 [.ref (B 0 0), .int q] h (fun r h' => r = some (.int (sp_count S q).1) ∧ RX dA t0 ((sp_count S q).2) lf mc cap B N h') := by
  refine yM_of (yZ_ok t0 mi D dA) (by decide) rfl (Nat.le_of_ble_eq_true rfl) ?_
  intro p l e s m args below meth c A C hr hin
  show yW p l e (yR 1 0 0) s m args below meth c 2 D A 0 0 _ 0 [some (.ref (B 0 0)), some (.int q)] [] h
  have h0 : S 1 0 = nI (N 0) ∧ N 0 ≤ 8 := hI 0
  have h1 : S 17 0 = nI (N 1) ∧ N 1 ≤ 6 := hI 1
  have h2 : S 19 0 = nI (N 2) ∧ N 2 ≤ 12 := hI 2
  have h5 : S 0 0 = nI t := hI 5
  have hB := mB_of_mI hI ht
  have h3 : S 23 0 = nI (N 3) ∧ N 3 ≤ 16 := hI 3
  have h4 : S 29 0 = nI (N 4) ∧ N 4 ≤ 6 := hI 4
  refine yr_iload_n 1 C dX8_count_0 rfl rfl ?_
  by_cases z1_0 : q = 0
  · rw [z1_0]
    refine yr_tabIn (off := 63) 64 C dX8_count_1 (by decide) (by decide) rfl (by decide) ?_
    refine yr_aload_n 65 C dX8_count_64 rfl rfl rfl ?_
    refine yr_get 68 C dX8_count_65 fl_X8_49 (rx0 hR) rfl rfl ?_
    refine yr_iret C dX8_count_68 hr (Nat.le_of_ble_eq_true rfl) (Nat.le_of_ble_eq_true rfl) ?_
    refine ⟨?_, hR⟩
    simp [sp_count, h0.1, h1.1, h2.1, h3.1, h4.1, z1_0]
  by_cases z1_1 : q = 1
  · rw [z1_1]
    refine yr_tabIn (off := 68) 69 C dX8_count_1 (by decide) (by decide) rfl (by decide) ?_
    refine yr_aload_n 70 C dX8_count_69 rfl rfl rfl ?_
    refine yr_get 73 C dX8_count_70 fl_X8_31 (rx0 hR) rfl rfl ?_
    refine yr_iload_n 74 C dX8_count_73 rfl rfl ?_
    rw [show (1 : Int32) = nI 1 from rfl]
    refine yr_V1v 77 C (xc_howMany _ (by decide) _ hR) dX8_count_74 mt_X3_howMany mv_X3_howMany ml_X8_262 (rx13 hR) rfl (Nat.le_of_ble_eq_true rfl) (Nat.le_of_ble_eq_true rfl) (Nat.le_of_ble_eq_true rfl) (Nat.le_of_ble_eq_true rfl) (Nat.le_of_ble_eq_true rfl) rfl (fun h hR => ?_)
    refine yr_iret C dX8_count_77 hr (Nat.le_of_ble_eq_true rfl) (Nat.le_of_ble_eq_true rfl) ?_
    subst z1_1
    refine ⟨?_, hR⟩
    show some (Value.int (S 46 1)) = some (Value.int (sp_count S 1).1)
    simp [sp_count]
  by_cases z1_2 : q = 2
  · rw [z1_2]
    refine yr_tabIn (off := 68) 69 C dX8_count_1 (by decide) (by decide) rfl (by decide) ?_
    refine yr_aload_n 70 C dX8_count_69 rfl rfl rfl ?_
    refine yr_get 73 C dX8_count_70 fl_X8_31 (rx0 hR) rfl rfl ?_
    refine yr_iload_n 74 C dX8_count_73 rfl rfl ?_
    rw [show (2 : Int32) = nI 2 from rfl]
    refine yr_V1v 77 C (xc_howMany _ (by decide) _ hR) dX8_count_74 mt_X3_howMany mv_X3_howMany ml_X8_262 (rx13 hR) rfl (Nat.le_of_ble_eq_true rfl) (Nat.le_of_ble_eq_true rfl) (Nat.le_of_ble_eq_true rfl) (Nat.le_of_ble_eq_true rfl) (Nat.le_of_ble_eq_true rfl) rfl (fun h hR => ?_)
    refine yr_iret C dX8_count_77 hr (Nat.le_of_ble_eq_true rfl) (Nat.le_of_ble_eq_true rfl) ?_
    subst z1_2
    refine ⟨?_, hR⟩
    show some (Value.int (S 46 2)) = some (Value.int (sp_count S 2).1)
    simp [sp_count]
  by_cases z1_3 : q = 3
  · rw [z1_3]
    refine yr_tabIn (off := 68) 69 C dX8_count_1 (by decide) (by decide) rfl (by decide) ?_
    refine yr_aload_n 70 C dX8_count_69 rfl rfl rfl ?_
    refine yr_get 73 C dX8_count_70 fl_X8_31 (rx0 hR) rfl rfl ?_
    refine yr_iload_n 74 C dX8_count_73 rfl rfl ?_
    rw [show (3 : Int32) = nI 3 from rfl]
    refine yr_V1v 77 C (xc_howMany _ (by decide) _ hR) dX8_count_74 mt_X3_howMany mv_X3_howMany ml_X8_262 (rx13 hR) rfl (Nat.le_of_ble_eq_true rfl) (Nat.le_of_ble_eq_true rfl) (Nat.le_of_ble_eq_true rfl) (Nat.le_of_ble_eq_true rfl) (Nat.le_of_ble_eq_true rfl) rfl (fun h hR => ?_)
    refine yr_iret C dX8_count_77 hr (Nat.le_of_ble_eq_true rfl) (Nat.le_of_ble_eq_true rfl) ?_
    subst z1_3
    refine ⟨?_, hR⟩
    show some (Value.int (S 46 3)) = some (Value.int (sp_count S 3).1)
    simp [sp_count]
  by_cases z1_4 : q = 4
  · rw [z1_4]
    refine yr_tabIn (off := 68) 69 C dX8_count_1 (by decide) (by decide) rfl (by decide) ?_
    refine yr_aload_n 70 C dX8_count_69 rfl rfl rfl ?_
    refine yr_get 73 C dX8_count_70 fl_X8_31 (rx0 hR) rfl rfl ?_
    refine yr_iload_n 74 C dX8_count_73 rfl rfl ?_
    rw [show (4 : Int32) = nI 4 from rfl]
    refine yr_V1v 77 C (xc_howMany _ (by decide) _ hR) dX8_count_74 mt_X3_howMany mv_X3_howMany ml_X8_262 (rx13 hR) rfl (Nat.le_of_ble_eq_true rfl) (Nat.le_of_ble_eq_true rfl) (Nat.le_of_ble_eq_true rfl) (Nat.le_of_ble_eq_true rfl) (Nat.le_of_ble_eq_true rfl) rfl (fun h hR => ?_)
    refine yr_iret C dX8_count_77 hr (Nat.le_of_ble_eq_true rfl) (Nat.le_of_ble_eq_true rfl) ?_
    subst z1_4
    refine ⟨?_, hR⟩
    show some (Value.int (S 46 4)) = some (Value.int (sp_count S 4).1)
    simp [sp_count]
  by_cases z1_5 : q = 5
  · rw [z1_5]
    refine yr_tabIn (off := 77) 78 C dX8_count_1 (by decide) (by decide) rfl (by decide) ?_
    refine yr_aload_n 79 C dX8_count_78 rfl rfl rfl ?_
    refine yr_get 82 C dX8_count_79 fl_X8_38 (rx0 hR) rfl rfl ?_
    refine yr_get 85 C dX8_count_82 fl_X8_182 (rx15 hR) rfl rfl ?_
    refine yr_iret C dX8_count_85 hr (Nat.le_of_ble_eq_true rfl) (Nat.le_of_ble_eq_true rfl) ?_
    refine ⟨?_, hR⟩
    simp [sp_count, h0.1, h1.1, h2.1, h3.1, h4.1, z1_0, z1_1, z1_2, z1_3, z1_4, z1_5]
  by_cases z1_6 : q = 6
  · rw [z1_6]
    refine yr_tabIn (off := 85) 86 C dX8_count_1 (by decide) (by decide) rfl (by decide) ?_
    refine yr_aload_n 87 C dX8_count_86 rfl rfl rfl ?_
    refine yr_get 90 C dX8_count_87 fl_X8_10 (rx0 hR) rfl rfl ?_
    refine yr_V0v 93 C (jl_size (show 0 < 5 by decide) _ hR) dX8_count_90 mt_Jx4a65c_size_8abf5 mv_Jx4a65c_size_8abf5 ml_X8_75 (rx1 hR (show 0 < 5 by decide)) rfl (Nat.le_of_ble_eq_true rfl) (Nat.le_of_ble_eq_true rfl) (Nat.le_of_ble_eq_true rfl) (Nat.le_of_ble_eq_true rfl) (Nat.le_of_ble_eq_true rfl) rfl (fun h e => ?_)
    subst e
    refine yr_iret C dX8_count_93 hr (Nat.le_of_ble_eq_true rfl) (Nat.le_of_ble_eq_true rfl) ?_
    refine ⟨?_, hR⟩
    simp [sp_count, h0.1, h1.1, h2.1, h3.1, h4.1, z1_0, z1_1, z1_2, z1_3, z1_4, z1_5, z1_6]
  by_cases z1_7 : q = 7
  · rw [z1_7]
    refine yr_tabIn (off := 93) 94 C dX8_count_1 (by decide) (by decide) rfl (by decide) ?_
    refine yr_aload_n 95 C dX8_count_94 rfl rfl rfl ?_
    refine yr_get 98 C dX8_count_95 fl_X8_16 (rx0 hR) rfl rfl ?_
    refine yr_V0v 101 C (jl_size (show 1 < 5 by decide) _ hR) dX8_count_98 mt_Jx4a65c_size_8abf5 mv_Jx4a65c_size_8abf5 ml_X8_75 (rx1 hR (show 1 < 5 by decide)) rfl (Nat.le_of_ble_eq_true rfl) (Nat.le_of_ble_eq_true rfl) (Nat.le_of_ble_eq_true rfl) (Nat.le_of_ble_eq_true rfl) (Nat.le_of_ble_eq_true rfl) rfl (fun h e => ?_)
    subst e
    refine yr_iret C dX8_count_101 hr (Nat.le_of_ble_eq_true rfl) (Nat.le_of_ble_eq_true rfl) ?_
    refine ⟨?_, hR⟩
    simp [sp_count, h0.1, h1.1, h2.1, h3.1, h4.1, z1_0, z1_1, z1_2, z1_3, z1_4, z1_5, z1_6, z1_7]
  by_cases z1_8 : q = 8
  · rw [z1_8]
    refine yr_tabIn (off := 101) 102 C dX8_count_1 (by decide) (by decide) rfl (by decide) ?_
    refine yr_aload_n 103 C dX8_count_102 rfl rfl rfl ?_
    refine yr_get 106 C dX8_count_103 fl_X8_19 (rx0 hR) rfl rfl ?_
    refine yr_V0v 109 C (jl_size (show 2 < 5 by decide) _ hR) dX8_count_106 mt_Jx4a65c_size_8abf5 mv_Jx4a65c_size_8abf5 ml_X8_75 (rx1 hR (show 2 < 5 by decide)) rfl (Nat.le_of_ble_eq_true rfl) (Nat.le_of_ble_eq_true rfl) (Nat.le_of_ble_eq_true rfl) (Nat.le_of_ble_eq_true rfl) (Nat.le_of_ble_eq_true rfl) rfl (fun h e => ?_)
    subst e
    refine yr_iret C dX8_count_109 hr (Nat.le_of_ble_eq_true rfl) (Nat.le_of_ble_eq_true rfl) ?_
    refine ⟨?_, hR⟩
    simp [sp_count, h0.1, h1.1, h2.1, h3.1, h4.1, z1_0, z1_1, z1_2, z1_3, z1_4, z1_5, z1_6, z1_7, z1_8]
  by_cases z1_9 : q = 9
  · rw [z1_9]
    refine yr_tabIn (off := 109) 110 C dX8_count_1 (by decide) (by decide) rfl (by decide) ?_
    refine yr_aload_n 111 C dX8_count_110 rfl rfl rfl ?_
    refine yr_get 114 C dX8_count_111 fl_X8_22 (rx0 hR) rfl rfl ?_
    refine yr_V0v 117 C (jl_size (show 3 < 5 by decide) _ hR) dX8_count_114 mt_Jx4a65c_size_8abf5 mv_Jx4a65c_size_8abf5 ml_X8_75 (rx1 hR (show 3 < 5 by decide)) rfl (Nat.le_of_ble_eq_true rfl) (Nat.le_of_ble_eq_true rfl) (Nat.le_of_ble_eq_true rfl) (Nat.le_of_ble_eq_true rfl) (Nat.le_of_ble_eq_true rfl) rfl (fun h e => ?_)
    subst e
    refine yr_iret C dX8_count_117 hr (Nat.le_of_ble_eq_true rfl) (Nat.le_of_ble_eq_true rfl) ?_
    refine ⟨?_, hR⟩
    simp [sp_count, h0.1, h1.1, h2.1, h3.1, h4.1, z1_0, z1_1, z1_2, z1_3, z1_4, z1_5, z1_6, z1_7, z1_8, z1_9]
  by_cases z1_10 : q = 10
  · rw [z1_10]
    refine yr_tabIn (off := 117) 118 C dX8_count_1 (by decide) (by decide) rfl (by decide) ?_
    refine yr_aload_n 119 C dX8_count_118 rfl rfl rfl ?_
    refine yr_get 122 C dX8_count_119 fl_X8_25 (rx0 hR) rfl rfl ?_
    refine yr_V0v 125 C (jl_size (show 4 < 5 by decide) _ hR) dX8_count_122 mt_Jx4a65c_size_8abf5 mv_Jx4a65c_size_8abf5 ml_X8_75 (rx1 hR (show 4 < 5 by decide)) rfl (Nat.le_of_ble_eq_true rfl) (Nat.le_of_ble_eq_true rfl) (Nat.le_of_ble_eq_true rfl) (Nat.le_of_ble_eq_true rfl) (Nat.le_of_ble_eq_true rfl) rfl (fun h e => ?_)
    subst e
    refine yr_iret C dX8_count_125 hr (Nat.le_of_ble_eq_true rfl) (Nat.le_of_ble_eq_true rfl) ?_
    refine ⟨?_, hR⟩
    simp [sp_count, h0.1, h1.1, h2.1, h3.1, h4.1, z1_0, z1_1, z1_2, z1_3, z1_4, z1_5, z1_6, z1_7, z1_8, z1_9, z1_10]
  by_cases z1_11 : q = 11
  · rw [z1_11]
    refine yr_tabIn (off := 125) 126 C dX8_count_1 (by decide) (by decide) rfl (by decide) ?_
    refine yr_aload_n 127 C dX8_count_126 rfl rfl rfl ?_
    refine yr_get 130 C dX8_count_127 fl_X8_53 (rx0 hR) rfl rfl ?_
    refine yr_iret C dX8_count_130 hr (Nat.le_of_ble_eq_true rfl) (Nat.le_of_ble_eq_true rfl) ?_
    refine ⟨?_, hR⟩
    simp [sp_count, h0.1, h1.1, h2.1, h3.1, h4.1, z1_0, z1_1, z1_2, z1_3, z1_4, z1_5, z1_6, z1_7, z1_8, z1_9, z1_10, z1_11]
  refine yr_tabOut 131 C dX8_count_1 (sw_out 11 (by decide) (fun i hi => match i, hi with | 0, _ => z1_0 | 1, _ => z1_1 | 2, _ => z1_2 | 3, _ => z1_3 | 4, _ => z1_4 | 5, _ => z1_5 | 6, _ => z1_6 | 7, _ => z1_7 | 8, _ => z1_8 | 9, _ => z1_9 | 10, _ => z1_10 | 11, _ => z1_11 | (n + 12), q => absurd q (by omega))) (by decide) ?_
  refine yr_iconst 132 C (-1) dX8_count_131 rfl rfl ?_
  refine yr_iret C dX8_count_132 hr (Nat.le_of_ble_eq_true rfl) (Nat.le_of_ble_eq_true rfl) ?_
  refine ⟨?_, hR⟩
  simp [sp_count, h0.1, h1.1, h2.1, h3.1, h4.1, z1_0, z1_1, z1_2, z1_3, z1_4, z1_5, z1_6, z1_7, z1_8, z1_9, z1_10, z1_11]
set_option maxHeartbeats 4000000 in
set_option maxRecDepth 100000 in
theorem xc_lamp (q out : Int32) (ho : out = 0 ∨ out = 1) (hI : mI S (N 0) (N 1) (N 2) (N 3) (N 4) t) (ht : t < 2 ^ 20) (hlf : lf = S 5) (h : yH) (hR : RX dA t0 (S) lf mc cap B N h) : yM (yZ t0 mi D dA) D yX8_lamp cX8_lamp 5 (some .int) 4 0 0 [.ref (B 0 0), .int q, .int out] h (fun r h' => r = some (.int (sp_lamp S q out).1) ∧ RX dA t0 ((sp_lamp S q out).2) lf mc cap B N h') := by
  refine yM_of (yZ_ok t0 mi D dA) (by decide) rfl (Nat.le_of_ble_eq_true rfl) ?_
  intro p l e s m args below meth c A C hr hin
  show yW p l e (yR 4 0 0) s m args below meth c 5 D A 0 0 _ 0 [some (.ref (B 0 0)), some (.int q), some (.int out), none, none] [] h
  have h0 : S 1 0 = nI (N 0) ∧ N 0 ≤ 8 := hI 0
  have h1 : S 17 0 = nI (N 1) ∧ N 1 ≤ 6 := hI 1
  have h2 : S 19 0 = nI (N 2) ∧ N 2 ≤ 12 := hI 2
  have h5 : S 0 0 = nI t := hI 5
  have hB := mB_of_mI hI ht
  refine yr_aload_n 1 C dX8_lamp_0 rfl rfl rfl ?_
  refine yr_iload_n 2 C dX8_lamp_1 rfl rfl ?_
  refine yr_V1v 5 C (xc_phaseAt _ h0 _ hR) dX8_lamp_2 mt_X8_phaseAt mv_X8_phaseAt ml_X8_91 (rx0 hR) rfl (Nat.le_of_ble_eq_true rfl) (Nat.le_of_ble_eq_true rfl) (Nat.le_of_ble_eq_true rfl) (Nat.le_of_ble_eq_true rfl) (Nat.le_of_ble_eq_true rfl) rfl (fun h hR => ?_)
  rcases ph_cases (B := B) hI q with ⟨e1, e2⟩ | ⟨j, hj, rfl, e1, e2⟩
  · rw [e2]
    refine yr_astore3 6 C dX8_lamp_5 rfl (by decide) rfl ?_
    refine yr_aload_n 7 C dX8_lamp_6 rfl rfl rfl ?_
    refine yr_ifnonnull_n 10 C dX8_lamp_7 rfl ?_
    refine yr_iconst 11 C (-1) dX8_lamp_10 rfl rfl ?_
    refine yr_iret C dX8_lamp_11 hr (Nat.le_of_ble_eq_true rfl) (Nat.le_of_ble_eq_true rfl) ?_
    exact ⟨by simp [sp_lamp, e1], by simpa [sp_lamp, e1] using hR⟩
  · rw [e2]
    have ej : ix (nI j) = j := ix_nI (by omega)
    refine yr_astore3 6 C dX8_lamp_5 rfl (by decide) rfl ?_
    refine yr_aload_n 7 C dX8_lamp_6 rfl rfl rfl ?_
    refine yr_ifnonnull_r 12 C dX8_lamp_7 (by decide) ?_
    refine yr_aload_n 13 C dX8_lamp_12 rfl rfl rfl ?_
    refine yr_get 16 C dX8_lamp_13 fl_X8_157 (rx3 hR hj) rfl rfl ?_
    refine yr_if_eq 23 19 C  dX8_lamp_16 (by decide) rfl (fun c16 => ?_) (fun c16 => ?_)
    · refine yr_iconst 24 C (0) dX8_lamp_23 rfl rfl ?_
      refine yr_istore4 26 C dX8_lamp_24 (by decide) rfl ?_
      refine yr_aload_n 27 C dX8_lamp_26 rfl rfl rfl ?_
      refine yr_iload_n 28 C dX8_lamp_27 rfl rfl ?_
      refine xx_put 31 C dX8_lamp_28 fp_X8_157 (rx3 hR hj) (Nat.le_of_ble_eq_true rfl) (yd_narZ ho) (yd_fitZ ho) (ru3_5 hR hj _) rfl (fun h hR => ?_)
      refine yr_iload 33 C dX8_lamp_31 rfl rfl ?_
      refine yr_iret C dX8_lamp_33 hr (Nat.le_of_ble_eq_true rfl) (Nat.le_of_ble_eq_true rfl) ?_
      exact ⟨by simp [sp_lamp, e1, ej, c16], by simpa [sp_lamp, e1, ej, c16] using hR⟩
    · refine yr_iconst 20 C (1) dX8_lamp_19 rfl rfl ?_
      refine yr_goto 24 C dX8_lamp_20 (by decide) ?_
      refine yr_istore4 26 C dX8_lamp_24 (by decide) rfl ?_
      refine yr_aload_n 27 C dX8_lamp_26 rfl rfl rfl ?_
      refine yr_iload_n 28 C dX8_lamp_27 rfl rfl ?_
      refine xx_put 31 C dX8_lamp_28 fp_X8_157 (rx3 hR hj) (Nat.le_of_ble_eq_true rfl) (yd_narZ ho) (yd_fitZ ho) (ru3_5 hR hj _) rfl (fun h hR => ?_)
      refine yr_iload 33 C dX8_lamp_31 rfl rfl ?_
      refine yr_iret C dX8_lamp_33 hr (Nat.le_of_ble_eq_true rfl) (Nat.le_of_ble_eq_true rfl) ?_
      exact ⟨by simp [sp_lamp, e1, ej, c16], by simpa [sp_lamp, e1, ej, c16] using hR⟩
set_option maxHeartbeats 4000000 in
set_option maxRecDepth 100000 in
theorem xc_ask (q : Int32) (hI : mI S (N 0) (N 1) (N 2) (N 3) (N 4) t) (ht : t < 2 ^ 20) (hlf : lf = S 5) (h : yH) (hR : RX dA t0 (S) lf mc cap B N h) : yM (yZ t0 mi D dA) D yX8_ask cX8_ask 3 (some .int) 4 0 0 [.ref (B 0 0), .int q] h (fun r h' => r = some (.int (sp_ask S q).1) ∧ RX dA t0 ((sp_ask S q).2) lf mc cap B N h') := by
  refine yM_of (yZ_ok t0 mi D dA) (by decide) rfl (Nat.le_of_ble_eq_true rfl) ?_
  intro p l e s m args below meth c A C hr hin
  show yW p l e (yR 4 0 0) s m args below meth c 3 D A 0 0 _ 0 [some (.ref (B 0 0)), some (.int q), none] [] h
  have h0 : S 1 0 = nI (N 0) ∧ N 0 ≤ 8 := hI 0
  have h1 : S 17 0 = nI (N 1) ∧ N 1 ≤ 6 := hI 1
  have h2 : S 19 0 = nI (N 2) ∧ N 2 ≤ 12 := hI 2
  have h5 : S 0 0 = nI t := hI 5
  have hB := mB_of_mI hI ht
  refine yr_aload_n 1 C dX8_ask_0 rfl rfl rfl ?_
  refine yr_iload_n 2 C dX8_ask_1 rfl rfl ?_
  refine yr_V1v 5 C (xc_phaseAt _ h0 _ hR) dX8_ask_2 mt_X8_phaseAt mv_X8_phaseAt ml_X8_91 (rx0 hR) rfl (Nat.le_of_ble_eq_true rfl) (Nat.le_of_ble_eq_true rfl) (Nat.le_of_ble_eq_true rfl) (Nat.le_of_ble_eq_true rfl) (Nat.le_of_ble_eq_true rfl) rfl (fun h hR => ?_)
  rcases ph_cases (B := B) hI q with ⟨e1, e2⟩ | ⟨j, hj, rfl, e1, e2⟩
  · rw [e2]
    refine yr_astore2 6 C dX8_ask_5 rfl (by decide) rfl ?_
    refine yr_aload_n 7 C dX8_ask_6 rfl rfl rfl ?_
    refine yr_ifnonnull_n 10 C dX8_ask_7 rfl ?_
    refine yr_iconst 11 C (-1) dX8_ask_10 rfl rfl ?_
    refine yr_iret C dX8_ask_11 hr (Nat.le_of_ble_eq_true rfl) (Nat.le_of_ble_eq_true rfl) ?_
    exact ⟨by simp [sp_ask, e1], by simpa [sp_ask, e1] using hR⟩
  · rw [e2]
    have ej : ix (nI j) = j := ix_nI (by omega)
    refine yr_astore2 6 C dX8_ask_5 rfl (by decide) rfl ?_
    refine yr_aload_n 7 C dX8_ask_6 rfl rfl rfl ?_
    refine yr_ifnonnull_r 12 C dX8_ask_7 (by decide) ?_
    have h18 : cO (S 10 j) (t + 1) := (show ∀ p, p < N 0 → cO (S 10 p) (t + 1) from hI 18) j hj
    have i1 := cO_iff (by omega) h18
    refine yr_aload_n 13 C dX8_ask_12 rfl rfl rfl ?_
    refine yr_V0v 16 C (xc_isAsked _ hj _ hR) dX8_ask_13 mt_X6_isAsked mv_X6_isAsked ml_X8_166 (rx3 hR hj) rfl (Nat.le_of_ble_eq_true rfl) (Nat.le_of_ble_eq_true rfl) (Nat.le_of_ble_eq_true rfl) (Nat.le_of_ble_eq_true rfl) (Nat.le_of_ble_eq_true rfl) rfl (fun h hR => ?_)
    refine yb_ne 27 19 C  dX8_ask_16 (by decide) rfl (fun c16 => ?_) (fun c16 => ?_)
    · refine yr_iconst 28 C (0) dX8_ask_27 rfl rfl ?_
      refine yr_iret C dX8_ask_28 hr (Nat.le_of_ble_eq_true rfl) (Nat.le_of_ble_eq_true rfl) ?_
      have a1 : 0 ≤ S 10 j := Int32.not_lt.mp (fun q => by simp [i1.mp q] at c16)
      exact ⟨by simp [sp_ask, e1, ej, a1], by simpa [sp_ask, e1, ej, a1] using hR⟩
    · refine yr_aload_n 20 C dX8_ask_19 rfl rfl rfl ?_
      refine yr_get 23 C dX8_ask_20 fl_X8_169 (rx3 hR hj) rfl rfl ?_
      refine yr_iconst 24 C (1) dX8_ask_23 rfl rfl ?_
      refine yr_icmp_ne 29 27 C  dX8_ask_24 (by decide) rfl (fun c24 => ?_) (fun c24 => ?_)
      · refine yr_aload_n 30 C dX8_ask_29 rfl rfl rfl ?_
        refine yr_aload_n 31 C dX8_ask_30 rfl rfl rfl ?_
        refine yr_get 34 C dX8_ask_31 fl_X8_49 (rx0 hR) rfl rfl ?_
        refine xx_put 37 C dX8_ask_34 fp_X8_172 (rx3 hR hj) (Nat.le_of_ble_eq_true rfl) rfl rfl (ru3_8 hR hj _) rfl (fun h hR => ?_)
        refine yr_iconst 38 C (1) dX8_ask_37 rfl rfl ?_
        refine yr_iret C dX8_ask_38 hr (Nat.le_of_ble_eq_true rfl) (Nat.le_of_ble_eq_true rfl) ?_
        have a1 : ¬ 0 ≤ S 10 j := Int32.not_le.mpr (i1.mpr (by simpa using c16))
        exact ⟨by simp [sp_ask, e1, ej, a1, c24], by simpa [sp_ask, e1, ej, a1, c24] using hR⟩
      · refine yr_iconst 28 C (0) dX8_ask_27 rfl rfl ?_
        refine yr_iret C dX8_ask_28 hr (Nat.le_of_ble_eq_true rfl) (Nat.le_of_ble_eq_true rfl) ?_
        have a1 : ¬ 0 ≤ S 10 j := Int32.not_le.mpr (i1.mpr (by simpa using c16))
        exact ⟨by simp [sp_ask, e1, ej, a1, c24], by simpa [sp_ask, e1, ej, a1, c24] using hR⟩
end X7
