def ix (x : Int32) : Nat := x.toNatClampNeg
theorem ix_nI {j : Nat} (h : j < 2 ^ 31) : ix (nI j) = j := nI_clamp h
/-- NONE, or a number below b -/
def cO (x : Int32) (b : Nat) : Prop := x = -5 ∨ ∃ j : Nat, j < b ∧ x = nI j
/-- what always holds of the reference's state: np phases, ns stages, nd detectors, no orders, nr pairs, t seconds -/
def mJ (S : yS) (np ns nd no nr t : Nat) : Nat → Prop
  | 0 => S 1 0 = nI np ∧ np ≤ 8
  | 1 => S 17 0 = nI ns ∧ ns ≤ 6
  | 2 => S 19 0 = nI nd ∧ nd ≤ 12
  | 3 => S 23 0 = nI no ∧ no ≤ 16
  | 4 => S 29 0 = nI nr ∧ nr ≤ 6
  | 5 => S 0 0 = nI t
  | 6 => ∀ p, p < np → ∃ k, k ≤ 4 ∧ S 2 p = nI k
  | 7 => ∀ p, p < np → cO (S 4 p) nd
  | 8 => ∀ d, d < nd → cO (S 20 d) 201
  | 9 => ∀ s, s < ns → ∀ k, k < 4 → cO (S 18 (4 * s + k)) np
  | 10 => ∀ k, k < no → ∃ p, p < np ∧ S 24 k = nI p
  | 11 => ∀ k, k < nr → (∃ d, d < nd ∧ S 30 k = nI d) ∧ ∃ d, d < nd ∧ S 31 k = nI d
  | 12 => cO (S 34 0) ns
  | 13 => cO (S 39 0) ns
  | 14 => S 38 0 = -1 ∨ ∃ s, s < ns ∧ S 38 0 = nI s
  | 15 => ∃ b, b ≤ t ∧ S 35 0 = nI b
  | 16 => ∀ p, p < np → (S 14 p = 0 ∨ S 14 p = 1) ∧ (S 15 p = 0 ∨ S 15 p = 1)
  | 17 => S 40 0 = 0 ∨ S 40 0 = 1
  | 18 => ∀ p, p < np → cO (S 10 p) (t + 1)
  | 19 => ∀ p, p < np → (∃ k, k ≤ 60 ∧ S 11 p = nI k) ∧ (∃ k, k ≤ 120 ∧ S 12 p = nI k) ∧ ∃ k, k ≤ 9 ∧ S 13 p = nI k
  | 20 => ∀ k, k < no → (∃ i, i ≤ 60 ∧ S 25 k = nI i) ∧ (∃ i, i ≤ 120 ∧ S 26 k = nI i) ∧ ∃ i, i ≤ 9 ∧ S 27 k = nI i
  | 21 => ∀ p, p < 8 → ∀ q, q < 8 → ∃ c, c ≤ 21 ∧ S 16 (8 * p + q) = nI c ∧ (p = q → c = 0) ∧ (np ≤ p → c = 0) ∧ (np ≤ q → c = 0)
  | 22 => ∀ p, p < 8 → ∀ q, q < 8 → (0 < S 16 (8 * p + q) ↔ 0 < S 16 (8 * q + p))
  | 23 => ∀ s, s < ns → ∃ k, k < 4 ∧ S 18 (4 * s + k) ≠ -5
  | 24 => ∀ s, s < ns → S 34 0 = nI s → ∀ k, k < 4 → ∀ p, S 18 (4 * s + k) = nI p → p < np → S 3 p = 1 ∧ S 10 p = -5
  | 25 => ∀ s, s < ns → S 39 0 = nI s → S 34 0 ≠ nI s
  | 26 => S 44 0 = 0 ∨ (S 44 0 = 1 ∧ ∃ u, S 42 0 = nI u ∧ u < t ∧ t ≤ u + 3) ∨ (S 44 0 = 2 ∧ ∃ u, S 42 0 = nI u ∧ u + 3 < t)
  | 27 => S 43 0 = S 45 0
  | 28 => t = 0 → ∀ j, S 51 j = 0
  | 29 => ∀ p, np ≤ p → p < 8 → S 3 p = 0 ∧ S 4 p = -5 ∧ S 5 p = 0 ∧ S 6 p = 0 ∧ S 7 p = 0 ∧ S 8 p = -5 ∧ S 9 p = 0 ∧ S 10 p = -5 ∧ S 11 p = 5 ∧ S 12 p = 20 ∧ S 13 p = 3 ∧ S 14 p = 0 ∧ S 15 p = 0
  | 30 => S 44 0 ≠ 0 → S 34 0 = -5
  | 31 => ∀ p, p < np → S 3 p = 1 → 0 < t
  | 32 => ∀ s, s < ns → ∀ k k', k < k' → k' < 4 → ∀ p, p < 8 → S 18 (4 * s + k) = nI p → S 18 (4 * s + k') ≠ nI p
  | _ => True
def mI (S : yS) (np ns nd no nr t : Nat) : Prop := ∀ i, mJ S np ns nd no nr t i
theorem m_in_ix {p : Int32} {n : Nat} (hn : n < 2 ^ 30) (h : m_in p 0 (nI n - 1) = true) : ∃ j : Nat, j < n ∧ p = nI j := by
  simp only [m_in, Bool.and_eq_true, Bool.not_eq_true', decide_eq_false_iff_not] at h
  obtain ⟨h1, h2⟩ := h
  obtain ⟨j, hj, rfl⟩ := nI_of h1
  refine ⟨j, ?_, rfl⟩
  rw [Int32.not_lt, Int32.le_iff_toInt_le, nI_toInt hj] at h2
  have e : (nI n - 1).toInt = (n : Int) - 1 := pk_sub_toInt (a := n) (b := 1) hn (by decide)
  omega
theorem m_in_of {j n : Nat} (hn : n < 2 ^ 30) (h : j < n) : m_in (nI j) 0 (nI n - 1) = true := by
  simp only [m_in, Bool.and_eq_true, Bool.not_eq_true', decide_eq_false_iff_not]
  refine ⟨nI_pos (by omega), ?_⟩
  rw [Int32.not_lt, Int32.le_iff_toInt_le, nI_toInt (by omega)]
  have e : (nI n - 1).toInt = (n : Int) - 1 := pk_sub_toInt (a := n) (b := 1) hn (by decide)
  omega
theorem m_isP_ix {S : yS} {np ns nd no nr t : Nat} (hI : mI S np ns nd no nr t) {p : Int32} (h : m_isP S p = true) : ∃ j : Nat, j < np ∧ p = nI j := by
  have h0 : S 1 0 = nI np ∧ np ≤ 8 := hI 0
  unfold m_isP at h
  rw [h0.1] at h
  exact m_in_ix (by omega) h
theorem m_isS_ix {S : yS} {np ns nd no nr t : Nat} (hI : mI S np ns nd no nr t) {p : Int32} (h : m_isS S p = true) : ∃ j : Nat, j < ns ∧ p = nI j := by
  have h0 : S 17 0 = nI ns ∧ ns ≤ 6 := hI 1
  unfold m_isS at h
  rw [h0.1] at h
  exact m_in_ix (by omega) h
theorem m_isD_ix {S : yS} {np ns nd no nr t : Nat} (hI : mI S np ns nd no nr t) {p : Int32} (h : m_isD S p = true) : ∃ j : Nat, j < nd ∧ p = nI j := by
  have h0 : S 19 0 = nI nd ∧ nd ≤ 12 := hI 2
  unfold m_isD at h
  rw [h0.1] at h
  exact m_in_ix (by omega) h
/-! what each call answers, and the state behind it: as the reference does it -/
def sp_phase (S : yS) (k : Int32) : Int32 × yS := if m_in k 0 4 then (if S 0 0 ≤ 0 then (if S 1 0 = 8 then (-2, S) else (S 1 0 + 1 - 1, mset (mset S 2 (ix (S 1 0)) k) 1 0 (S 1 0 + 1))) else (-3, S)) else (-1, S)
def sp_detector (S : yS) (p : Int32) : Int32 × yS := if m_isP S p then (if S 19 0 = 12 then (-2, S) else (S 19 0 + 1 - 1, mset (mset (mset S 4 (ix p) (S 19 0)) 20 (ix (S 19 0)) 0) 19 0 (S 19 0 + 1))) else (-1, S)
def sp_cut (S : yS) (d : Int32) : Int32 × yS := if m_isD S d then (if 0 ≤ S 20 (ix d) then (S 20 (ix d), mset S 20 (ix d) (-5)) else (-3, S)) else (-1, S)
def sp_passing (S : yS) (d a b : Int32) : Int32 × yS := if m_isD S d && m_in a (-128) 127 && m_in b 0 10000 then (if 0 ≤ S 20 (ix d) then (if S 20 (ix d) = 200 then (-2, S) else (S 20 (ix d) + 1, mset (mset (mset S 21 (200 * ix d + ix (S 20 (ix d))) a) 22 (200 * ix d + ix (S 20 (ix d))) b) 20 (ix d) (S 20 (ix d) + 1))) else (-3, S)) else (-1, S)
def sp_table (S : yS) (p a b c u : Int32) : Int32 × yS := if m_isP S p && m_in a 1 60 && m_in b a 120 && m_in c 0 9 && decide (S 0 0 ≤ u) then (if S 23 0 = 16 then (-2, S) else (S 23 0 + 1, mset (mset (mset (mset (mset (mset S 24 (ix (S 23 0)) p) 25 (ix (S 23 0)) a) 26 (ix (S 23 0)) b) 27 (ix (S 23 0)) c) 28 (ix (S 23 0)) u) 23 0 (S 23 0 + 1))) else (-1, S)
def sp_lamp (S : yS) (p out : Int32) : Int32 × yS := if m_isP S p then (if S 14 (ix p) = 0 then 0 else 1, mset S 14 (ix p) out) else (-1, S)
def sp_pair (S : yS) (d e k : Int32) : Int32 × yS := if m_isD S d && m_isD S e && !decide (d = e) && m_in k 1 60 then (if S 29 0 = 6 then (-2, S) else (S 29 0 + 1 - 1, mset (mset (mset (mset (mset S 30 (ix (S 29 0)) d) 31 (ix (S 29 0)) e) 32 (ix (S 29 0)) k) 33 (ix (S 29 0)) 0) 29 0 (S 29 0 + 1))) else (-1, S)
def sp_ask (S : yS) (p : Int32) : Int32 × yS := if m_isP S p then (if 0 ≤ S 10 (ix p) ∨ S 3 (ix p) = 1 then (0, S) else (1, mset S 10 (ix p) (S 0 0))) else (-1, S)
def sp_hurry (S : yS) (s : Int32) : Int32 × yS := if m_isS S s then (if S 44 0 ≤ 0 then (if s = S 34 0 then (0, S) else (1, mset S 39 0 s)) else (-3, S)) else (-1, S)
def sp_alarm (S : yS) : Int32 × yS := if S 44 0 ≤ 0 then (1, mset S 40 0 1) else (-3, S)
def sp_light (S : yS) (p : Int32) : Int32 × yS := (if m_isP S p then S 3 (ix p) else -1, S)
def sp_length (S : yS) (p : Int32) : Int32 × yS := (if m_isD S p then S 20 (ix p) else -1, S)
def sp_finding (S : yS) (q : Int32) : Int32 × yS := (if q = 0 then S 47 0 else if q = 1 then S 48 0 else -1, S)
def sp_trace (S : yS) : Int32 × yS := (S 50 0, S)
section M3
variable {Z : (Nat → Prop) → State → Prop} {D : va_G} {dA : Nat → ClassId} {ad : Nat → Nat} {m0 : Nat} {S : yS} {np ns nd no nr t : Nat}
set_option maxHeartbeats 4000000 in
set_option maxRecDepth 100000 in
theorem mc_phase (hZ : yZok D dA Z) (k : Int32) (hI : mI S np ns nd no nr t) (h : yH) (hR : yMR dA ad m0 (S) h) : yM Z D yX9_phase cX9_phase 2 (some .int) 1 0 0 [.ref m0, .int k] h (fun r h' => r = some (.int (sp_phase S k).1) ∧ yMR dA ad m0 ((sp_phase S k).2) h') := by
  refine yM_of hZ (by decide) rfl (Nat.le_of_ble_eq_true rfl) ?_
  intro p l e s m args below meth c A C hr hin
  show yW p l e (yR 1 0 0) s m args below meth c 2 D A 0 0 _ 0 [some (.ref m0), some (.int k)] [] h
  refine yr_iload_n 1 C dX9_phase_0 rfl rfl ?_
  refine yr_iconst 2 C (0) dX9_phase_1 rfl rfl ?_
  refine yr_iconst 3 C (4) dX9_phase_2 rfl rfl ?_
  refine yr_S3v 6 C (mc_in hZ _ _ _ _) dX9_phase_3 mt_X9_in ms_X9_in ml_X9_123 (Nat.le_of_ble_eq_true rfl) (Nat.le_of_ble_eq_true rfl) (Nat.le_of_ble_eq_true rfl) (Nat.le_of_ble_eq_true rfl) (Nat.le_of_ble_eq_true rfl) rfl (fun h e => ?_)
  subst e
  refine yb_ne 11 9 C dX9_phase_6 (by decide) rfl (fun c6 => ?_) (fun c6 => ?_)
  · refine yr_aload_n 12 C dX9_phase_11 rfl rfl rfl ?_
    refine ym_get 15 C hR dX9_phase_12 fl_X9_133 (by decide) rfl rfl ?_
    refine yr_if_le 21 18 C dX9_phase_15 (by decide) rfl (fun c15 => ?_) (fun c15 => ?_)
    · refine yr_aload_n 22 C dX9_phase_21 rfl rfl rfl ?_
      refine ym_get 25 C hR dX9_phase_22 fl_X9_120 (by decide) rfl rfl ?_
      refine yr_bipush 27 C (8) dX9_phase_25 rfl rfl ?_
      refine yr_icmp_ne 33 30 C dX9_phase_27 (by decide) rfl (fun c27 => ?_) (fun c27 => ?_)
      · have h0 : S 1 0 = nI np ∧ np ≤ 8 := hI 0
        have h8 : np < 8 := by
          have : np ≠ 8 := fun e => c27 (by rw [h0.1, e]; rfl)
          omega
        have e1 : ix (S 1 0) = np := by rw [h0.1]; exact ix_nI (by omega)
        have h9 := h0.1
        refine yr_aload_n 34 C dX9_phase_33 rfl rfl rfl ?_
        refine ym_getA 37 C hR dX9_phase_34 fl_X9_7 (by decide) rfl rfl ?_
        refine yr_aload_n 38 C dX9_phase_37 rfl rfl rfl ?_
        refine ym_get 41 C hR dX9_phase_38 fl_X9_120 (by decide) rfl rfl ?_
        rw [h9]
        refine yr_iload_n 42 C dX9_phase_41 rfl rfl ?_
        refine ym_astN 43 C hR dX9_phase_42 (by decide) rfl rfl ?_ rfl (fun h hR => ?_)
        · simp only [mL]; omega
        rw [← e1] at hR
        refine yr_aload_n 44 C dX9_phase_43 rfl rfl rfl ?_
        refine yr_dup 45 C dX9_phase_44 rfl rfl ?_
        refine ym_get 48 C hR dX9_phase_45 fl_X9_120 (by decide) rfl rfl ?_
        refine yr_iconst 49 C (1) dX9_phase_48 rfl rfl ?_
        refine yr_iadd 50 C dX9_phase_49 rfl ?_
        refine ym_put 53 C hR dX9_phase_50 fp_X9_120 (by decide) rfl rfl (fun h hR => ?_)
        refine yr_aload_n 54 C dX9_phase_53 rfl rfl rfl ?_
        refine ym_get 57 C hR dX9_phase_54 fl_X9_120 (by decide) rfl rfl ?_
        refine yr_iconst 58 C (1) dX9_phase_57 rfl rfl ?_
        refine yr_isub 59 C dX9_phase_58 rfl ?_
        refine yr_iret C dX9_phase_59 hr (Nat.le_of_ble_eq_true rfl) (Nat.le_of_ble_eq_true rfl) ?_
        refine ⟨?_, ?_⟩
        · simp [sp_phase, mset_ne, mset_same, c6, c15, c27]
        · simpa [sp_phase, mset_ne, mset_same, c6, c15, c27] using hR
      · refine yr_bipush 32 C (-2) dX9_phase_30 rfl rfl ?_
        refine yr_iret C dX9_phase_32 hr (Nat.le_of_ble_eq_true rfl) (Nat.le_of_ble_eq_true rfl) ?_
        exact ⟨by simp [sp_phase, mset_ne, mset_same, ix_nI, c6, c15, c27], by simpa [sp_phase, mset_ne, mset_same, ix_nI, c6, c15, c27] using hR⟩
    · refine yr_bipush 20 C (-3) dX9_phase_18 rfl rfl ?_
      refine yr_iret C dX9_phase_20 hr (Nat.le_of_ble_eq_true rfl) (Nat.le_of_ble_eq_true rfl) ?_
      exact ⟨by simp [sp_phase, mset_ne, mset_same, ix_nI, c6, c15], by simpa [sp_phase, mset_ne, mset_same, ix_nI, c6, c15] using hR⟩
  · refine yr_iconst 10 C (-1) dX9_phase_9 rfl rfl ?_
    refine yr_iret C dX9_phase_10 hr (Nat.le_of_ble_eq_true rfl) (Nat.le_of_ble_eq_true rfl) ?_
    exact ⟨by simp [sp_phase, mset_ne, mset_same, ix_nI, c6], by simpa [sp_phase, mset_ne, mset_same, ix_nI, c6] using hR⟩
set_option maxHeartbeats 4000000 in
set_option maxRecDepth 100000 in
theorem mc_detector (hZ : yZok D dA Z) (q : Int32) (hI : mI S np ns nd no nr t) (h : yH) (hR : yMR dA ad m0 (S) h) : yM Z D yX9_detector cX9_detector 2 (some .int) 2 0 0 [.ref m0, .int q] h (fun r h' => r = some (.int (sp_detector S q).1) ∧ yMR dA ad m0 ((sp_detector S q).2) h') := by
  refine yM_of hZ (by decide) rfl (Nat.le_of_ble_eq_true rfl) ?_
  intro p l e s m args below meth c A C hr hin
  show yW p l e (yR 2 0 0) s m args below meth c 2 D A 0 0 _ 0 [some (.ref m0), some (.int q)] [] h
  refine yr_aload_n 1 C dX9_detector_0 rfl rfl rfl ?_
  refine yr_iload_n 2 C dX9_detector_1 rfl rfl ?_
  refine yr_V1v 5 C (mc_isPhase hZ _ _ hR) dX9_detector_2 mt_X9_isPhase mv_X9_isPhase ml_X9_136 hR.1 rfl (Nat.le_of_ble_eq_true rfl) (Nat.le_of_ble_eq_true rfl) (Nat.le_of_ble_eq_true rfl) (Nat.le_of_ble_eq_true rfl) (Nat.le_of_ble_eq_true rfl) rfl (fun h hR => ?_)
  refine yb_ne 10 8 C dX9_detector_5 (by decide) rfl (fun c5 => ?_) (fun c5 => ?_)
  · obtain ⟨j, hj, rfl⟩ := m_isP_ix hI c5
    have h0 : S 1 0 = nI np ∧ np ≤ 8 := hI 0
    have e0 : ix (nI j) = j := ix_nI (by omega)
    refine yr_aload_n 11 C dX9_detector_10 rfl rfl rfl ?_
    refine ym_get 14 C hR dX9_detector_11 fl_X9_130 (by decide) rfl rfl ?_
    refine yr_bipush 16 C (12) dX9_detector_14 rfl rfl ?_
    refine yr_icmp_ne 22 19 C dX9_detector_16 (by decide) rfl (fun c16 => ?_) (fun c16 => ?_)
    · have h2 : S 19 0 = nI nd ∧ nd ≤ 12 := hI 2
      have h8 : nd < 12 := by
        have : nd ≠ 12 := fun e => c16 (by rw [h2.1, e]; rfl)
        omega
      have e1 : ix (S 19 0) = nd := by rw [h2.1]; exact ix_nI (by omega)
      refine yr_aload_n 23 C dX9_detector_22 rfl rfl rfl ?_
      refine ym_getA 26 C hR dX9_detector_23 fl_X9_16 (by decide) rfl rfl ?_
      refine yr_iload_n 27 C dX9_detector_26 rfl rfl ?_
      refine yr_aload_n 28 C dX9_detector_27 rfl rfl rfl ?_
      refine ym_get 31 C hR dX9_detector_28 fl_X9_130 (by decide) rfl rfl ?_
      refine ym_astN 32 C hR dX9_detector_31 (by decide) rfl rfl ?_ rfl (fun h hR => ?_)
      · simp only [mL]; omega
      refine yr_aload_n 33 C dX9_detector_32 rfl rfl rfl ?_
      refine ym_getA 36 C hR dX9_detector_33 fl_X9_59 (by decide) rfl rfl ?_
      refine yr_aload_n 37 C dX9_detector_36 rfl rfl rfl ?_
      refine ym_get 40 C hR dX9_detector_37 fl_X9_130 (by decide) rfl rfl ?_
      rw [mset_ne S _ (show 19 ≠ 4 by decide), h2.1]
      refine yr_iconst 41 C (0) dX9_detector_40 rfl rfl ?_
      refine ym_astN 42 C hR dX9_detector_41 (by decide) rfl rfl ?_ rfl (fun h hR => ?_)
      · simp only [mL]; omega
      rw [← e1, ← e0] at hR
      refine yr_aload_n 43 C dX9_detector_42 rfl rfl rfl ?_
      refine yr_dup 44 C dX9_detector_43 rfl rfl ?_
      refine ym_get 47 C hR dX9_detector_44 fl_X9_130 (by decide) rfl rfl ?_
      refine yr_iconst 48 C (1) dX9_detector_47 rfl rfl ?_
      refine yr_iadd 49 C dX9_detector_48 rfl ?_
      refine ym_put 52 C hR dX9_detector_49 fp_X9_130 (by decide) rfl rfl (fun h hR => ?_)
      refine yr_aload_n 53 C dX9_detector_52 rfl rfl rfl ?_
      refine ym_get 56 C hR dX9_detector_53 fl_X9_130 (by decide) rfl rfl ?_
      refine yr_iconst 57 C (1) dX9_detector_56 rfl rfl ?_
      refine yr_isub 58 C dX9_detector_57 rfl ?_
      refine yr_iret C dX9_detector_58 hr (Nat.le_of_ble_eq_true rfl) (Nat.le_of_ble_eq_true rfl) ?_
      refine ⟨?_, ?_⟩
      · simp [sp_detector, mset_ne, mset_same, c5, c16]
      · simpa [sp_detector, mset_ne, mset_same, c5, c16] using hR
    · refine yr_bipush 21 C (-2) dX9_detector_19 rfl rfl ?_
      refine yr_iret C dX9_detector_21 hr (Nat.le_of_ble_eq_true rfl) (Nat.le_of_ble_eq_true rfl) ?_
      exact ⟨by simp [sp_detector, mset_ne, mset_same, ix_nI, c5, c16], by simpa [sp_detector, mset_ne, mset_same, ix_nI, c5, c16] using hR⟩
  · refine yr_iconst 9 C (-1) dX9_detector_8 rfl rfl ?_
    refine yr_iret C dX9_detector_9 hr (Nat.le_of_ble_eq_true rfl) (Nat.le_of_ble_eq_true rfl) ?_
    exact ⟨by simp [sp_detector, mset_ne, mset_same, ix_nI, c5], by simpa [sp_detector, mset_ne, mset_same, ix_nI, c5] using hR⟩
set_option maxHeartbeats 4000000 in
set_option maxRecDepth 100000 in
theorem mc_cut (hZ : yZok D dA Z) (q : Int32) (hI : mI S np ns nd no nr t) (h : yH) (hR : yMR dA ad m0 (S) h) : yM Z D yX9_cut cX9_cut 3 (some .int) 2 0 0 [.ref m0, .int q] h (fun r h' => r = some (.int (sp_cut S q).1) ∧ yMR dA ad m0 ((sp_cut S q).2) h') := by
  refine yM_of hZ (by decide) rfl (Nat.le_of_ble_eq_true rfl) ?_
  intro p l e s m args below meth c A C hr hin
  show yW p l e (yR 2 0 0) s m args below meth c 3 D A 0 0 _ 0 [some (.ref m0), some (.int q), none] [] h
  refine yr_aload_n 1 C dX9_cut_0 rfl rfl rfl ?_
  refine yr_iload_n 2 C dX9_cut_1 rfl rfl ?_
  refine yr_V1v 5 C (mc_isDetector hZ _ _ hR) dX9_cut_2 mt_X9_isDetector mv_X9_isDetector ml_X9_147 hR.1 rfl (Nat.le_of_ble_eq_true rfl) (Nat.le_of_ble_eq_true rfl) (Nat.le_of_ble_eq_true rfl) (Nat.le_of_ble_eq_true rfl) (Nat.le_of_ble_eq_true rfl) rfl (fun h hR => ?_)
  refine yb_ne 10 8 C dX9_cut_5 (by decide) rfl (fun c5 => ?_) (fun c5 => ?_)
  · obtain ⟨j, hj, rfl⟩ := m_isD_ix hI c5
    have h0 : S 19 0 = nI nd ∧ nd ≤ 12 := hI 2
    have e0 : ix (nI j) = j := ix_nI (by omega)
    refine yr_aload_n 11 C dX9_cut_10 rfl rfl rfl ?_
    refine ym_getA 14 C hR dX9_cut_11 fl_X9_59 (by decide) rfl rfl ?_
    refine yr_iload_n 15 C dX9_cut_14 rfl rfl ?_
    refine ym_aldN 16 C hR dX9_cut_15 (by decide) rfl rfl ?_ rfl ?_
    · simp only [mL]; omega
    refine yr_if_ge 22 19 C dX9_cut_16 (by decide) rfl (fun c16 => ?_) (fun c16 => ?_)
    · refine yr_aload_n 23 C dX9_cut_22 rfl rfl rfl ?_
      refine ym_getA 26 C hR dX9_cut_23 fl_X9_59 (by decide) rfl rfl ?_
      refine yr_iload_n 27 C dX9_cut_26 rfl rfl ?_
      refine ym_aldN 28 C hR dX9_cut_27 (by decide) rfl rfl ?_ rfl ?_
      · simp only [mL]; omega
      refine yr_istore2 29 C dX9_cut_28 (by decide) rfl ?_
      refine yr_aload_n 30 C dX9_cut_29 rfl rfl rfl ?_
      refine ym_getA 33 C hR dX9_cut_30 fl_X9_59 (by decide) rfl rfl ?_
      refine yr_iload_n 34 C dX9_cut_33 rfl rfl ?_
      refine yr_bipush 36 C (-5) dX9_cut_34 rfl rfl ?_
      refine ym_astN 37 C hR dX9_cut_36 (by decide) rfl rfl ?_ rfl (fun h hR => ?_)
      · simp only [mL]; omega
      refine yr_iload_n 38 C dX9_cut_37 rfl rfl ?_
      refine yr_iret C dX9_cut_38 hr (Nat.le_of_ble_eq_true rfl) (Nat.le_of_ble_eq_true rfl) ?_
      refine ⟨?_, ?_⟩
      · simp [sp_cut, e0, c5, c16]
      · simpa [sp_cut, e0, c5, c16] using hR
    · refine yr_bipush 21 C (-3) dX9_cut_19 rfl rfl ?_
      refine yr_iret C dX9_cut_21 hr (Nat.le_of_ble_eq_true rfl) (Nat.le_of_ble_eq_true rfl) ?_
      refine ⟨?_, ?_⟩
      · simp [sp_cut, e0, c5, c16]
      · simpa [sp_cut, e0, c5, c16] using hR
  · refine yr_iconst 9 C (-1) dX9_cut_8 rfl rfl ?_
    refine yr_iret C dX9_cut_9 hr (Nat.le_of_ble_eq_true rfl) (Nat.le_of_ble_eq_true rfl) ?_
    refine ⟨?_, ?_⟩
    · simp [sp_cut, mset_ne, mset_same, ix_nI, c5]
    · simpa [sp_cut, mset_ne, mset_same, ix_nI, c5] using hR
set_option maxHeartbeats 4000000 in
set_option maxRecDepth 100000 in
theorem mc_alarm (hZ : yZok D dA Z)  (hI : mI S np ns nd no nr t) (h : yH) (hR : yMR dA ad m0 (S) h) : yM Z D yX9_alarm cX9_alarm 1 (some .int) 0 0 0 [.ref m0] h (fun r h' => r = some (.int (sp_alarm S).1) ∧ yMR dA ad m0 ((sp_alarm S).2) h') := by
  refine yM_of hZ (by decide) rfl (Nat.le_of_ble_eq_true rfl) ?_
  intro p l e s m args below meth c A C hr hin
  show yW p l e (yR 0 0 0) s m args below meth c 1 D A 0 0 _ 0 [some (.ref m0)] [] h
  refine yr_aload_n 1 C dX9_alarm_0 rfl rfl rfl ?_
  refine ym_get 4 C hR dX9_alarm_1 fl_X9_159 (by decide) rfl rfl ?_
  refine yr_if_le 10 7 C dX9_alarm_4 (by decide) rfl (fun c4 => ?_) (fun c4 => ?_)
  · refine yr_aload_n 11 C dX9_alarm_10 rfl rfl rfl ?_
    refine yr_iconst 12 C (1) dX9_alarm_11 rfl rfl ?_
    refine ym_putZ 15 C hR dX9_alarm_12 fp_X9_162 (by decide) rfl ?_ rfl (fun h hR => ?_)
    · exact Or.inr rfl
    refine yr_iconst 16 C (1) dX9_alarm_15 rfl rfl ?_
    refine yr_iret C dX9_alarm_16 hr (Nat.le_of_ble_eq_true rfl) (Nat.le_of_ble_eq_true rfl) ?_
    exact ⟨by simp [sp_alarm, mset_ne, mset_same, ix_nI, c4], by simpa [sp_alarm, mset_ne, mset_same, ix_nI, c4] using hR⟩
  · refine yr_bipush 9 C (-3) dX9_alarm_7 rfl rfl ?_
    refine yr_iret C dX9_alarm_9 hr (Nat.le_of_ble_eq_true rfl) (Nat.le_of_ble_eq_true rfl) ?_
    exact ⟨by simp [sp_alarm, mset_ne, mset_same, ix_nI, c4], by simpa [sp_alarm, mset_ne, mset_same, ix_nI, c4] using hR⟩
set_option maxHeartbeats 4000000 in
set_option maxRecDepth 100000 in
theorem mc_hurry (hZ : yZok D dA Z) (q : Int32) (hI : mI S np ns nd no nr t) (h : yH) (hR : yMR dA ad m0 (S) h) : yM Z D yX9_hurry cX9_hurry 2 (some .int) 2 0 0 [.ref m0, .int q] h (fun r h' => r = some (.int (sp_hurry S q).1) ∧ yMR dA ad m0 ((sp_hurry S q).2) h') := by
  refine yM_of hZ (by decide) rfl (Nat.le_of_ble_eq_true rfl) ?_
  intro p l e s m args below meth c A C hr hin
  show yW p l e (yR 2 0 0) s m args below meth c 2 D A 0 0 _ 0 [some (.ref m0), some (.int q)] [] h
  refine yr_aload_n 1 C dX9_hurry_0 rfl rfl rfl ?_
  refine yr_iload_n 2 C dX9_hurry_1 rfl rfl ?_
  refine yr_V1v 5 C (mc_isStage hZ _ _ hR) dX9_hurry_2 mt_X9_isStage mv_X9_isStage ml_X9_156 hR.1 rfl (Nat.le_of_ble_eq_true rfl) (Nat.le_of_ble_eq_true rfl) (Nat.le_of_ble_eq_true rfl) (Nat.le_of_ble_eq_true rfl) (Nat.le_of_ble_eq_true rfl) rfl (fun h hR => ?_)
  refine yb_ne 10 8 C dX9_hurry_5 (by decide) rfl (fun c5 => ?_) (fun c5 => ?_)
  · refine yr_aload_n 11 C dX9_hurry_10 rfl rfl rfl ?_
    refine ym_get 14 C hR dX9_hurry_11 fl_X9_159 (by decide) rfl rfl ?_
    refine yr_if_le 20 17 C dX9_hurry_14 (by decide) rfl (fun c14 => ?_) (fun c14 => ?_)
    · refine yr_iload_n 21 C dX9_hurry_20 rfl rfl ?_
      refine yr_aload_n 22 C dX9_hurry_21 rfl rfl rfl ?_
      refine ym_get 25 C hR dX9_hurry_22 fl_X9_95 (by decide) rfl rfl ?_
      refine yr_icmp_ne 30 28 C dX9_hurry_25 (by decide) rfl (fun c25 => ?_) (fun c25 => ?_)
      · refine yr_aload_n 31 C dX9_hurry_30 rfl rfl rfl ?_
        refine yr_iload_n 32 C dX9_hurry_31 rfl rfl ?_
        refine ym_put 35 C hR dX9_hurry_32 fp_X9_102 (by decide) rfl rfl (fun h hR => ?_)
        refine yr_iconst 36 C (1) dX9_hurry_35 rfl rfl ?_
        refine yr_iret C dX9_hurry_36 hr (Nat.le_of_ble_eq_true rfl) (Nat.le_of_ble_eq_true rfl) ?_
        exact ⟨by simp [sp_hurry, mset_ne, mset_same, ix_nI, c5, c14, c25], by simpa [sp_hurry, mset_ne, mset_same, ix_nI, c5, c14, c25] using hR⟩
      · refine yr_iconst 29 C (0) dX9_hurry_28 rfl rfl ?_
        refine yr_iret C dX9_hurry_29 hr (Nat.le_of_ble_eq_true rfl) (Nat.le_of_ble_eq_true rfl) ?_
        subst c25
        exact ⟨by simp [sp_hurry, c5, c14], by simpa [sp_hurry, c5, c14] using hR⟩
    · refine yr_bipush 19 C (-3) dX9_hurry_17 rfl rfl ?_
      refine yr_iret C dX9_hurry_19 hr (Nat.le_of_ble_eq_true rfl) (Nat.le_of_ble_eq_true rfl) ?_
      exact ⟨by simp [sp_hurry, mset_ne, mset_same, ix_nI, c5, c14], by simpa [sp_hurry, mset_ne, mset_same, ix_nI, c5, c14] using hR⟩
  · refine yr_iconst 9 C (-1) dX9_hurry_8 rfl rfl ?_
    refine yr_iret C dX9_hurry_9 hr (Nat.le_of_ble_eq_true rfl) (Nat.le_of_ble_eq_true rfl) ?_
    exact ⟨by simp [sp_hurry, mset_ne, mset_same, ix_nI, c5], by simpa [sp_hurry, mset_ne, mset_same, ix_nI, c5] using hR⟩
set_option maxHeartbeats 4000000 in
set_option maxRecDepth 100000 in
theorem mc_light (hZ : yZok D dA Z) (q : Int32) (hI : mI S np ns nd no nr t) (h : yH) (hR : yMR dA ad m0 (S) h) : yM Z D yX9_light cX9_light 2 (some .int) 2 0 0 [.ref m0, .int q] h (fun r h' => r = some (.int (sp_light S q).1) ∧ yMR dA ad m0 ((sp_light S q).2) h') := by
  refine yM_of hZ (by decide) rfl (Nat.le_of_ble_eq_true rfl) ?_
  intro p l e s m args below meth c A C hr hin
  show yW p l e (yR 2 0 0) s m args below meth c 2 D A 0 0 _ 0 [some (.ref m0), some (.int q)] [] h
  refine yr_aload_n 1 C dX9_light_0 rfl rfl rfl ?_
  refine yr_iload_n 2 C dX9_light_1 rfl rfl ?_
  refine yr_V1v 5 C (mc_isPhase hZ _ _ hR) dX9_light_2 mt_X9_isPhase mv_X9_isPhase ml_X9_136 hR.1 rfl (Nat.le_of_ble_eq_true rfl) (Nat.le_of_ble_eq_true rfl) (Nat.le_of_ble_eq_true rfl) (Nat.le_of_ble_eq_true rfl) (Nat.le_of_ble_eq_true rfl) rfl (fun h hR => ?_)
  refine yb_eq 17 8 C dX9_light_5 (by decide) rfl (fun c5 => ?_) (fun c5 => ?_)
  · refine yr_iconst 18 C (-1) dX9_light_17 rfl rfl ?_
    refine yr_iret C dX9_light_18 hr (Nat.le_of_ble_eq_true rfl) (Nat.le_of_ble_eq_true rfl) ?_
    refine ⟨?_, hR⟩
    first | (simp [sp_light, e0, c5]; done) | simp [sp_light, c5]
  · obtain ⟨j, hj, rfl⟩ := m_isP_ix hI c5
    have h0 : S 1 0 = nI np ∧ np ≤ 8 := hI 0
    have e0 : ix (nI j) = j := ix_nI (by omega)
    refine yr_aload_n 9 C dX9_light_8 rfl rfl rfl ?_
    refine ym_getA 12 C hR dX9_light_9 fl_X9_13 (by decide) rfl rfl ?_
    refine yr_iload_n 13 C dX9_light_12 rfl rfl ?_
    refine ym_aldN 14 C hR dX9_light_13 (by decide) rfl rfl ?_ rfl ?_
    · simp only [mL]; omega
    refine yr_goto 18 C dX9_light_14 (by decide) ?_
    refine yr_iret C dX9_light_18 hr (Nat.le_of_ble_eq_true rfl) (Nat.le_of_ble_eq_true rfl) ?_
    refine ⟨?_, hR⟩
    first | (simp [sp_light, e0, c5]; done) | simp [sp_light, c5]
set_option maxHeartbeats 4000000 in
set_option maxRecDepth 100000 in
theorem mc_length (hZ : yZok D dA Z) (q : Int32) (hI : mI S np ns nd no nr t) (h : yH) (hR : yMR dA ad m0 (S) h) : yM Z D yX9_length cX9_length 2 (some .int) 2 0 0 [.ref m0, .int q] h (fun r h' => r = some (.int (sp_length S q).1) ∧ yMR dA ad m0 ((sp_length S q).2) h') := by
  refine yM_of hZ (by decide) rfl (Nat.le_of_ble_eq_true rfl) ?_
  intro p l e s m args below meth c A C hr hin
  show yW p l e (yR 2 0 0) s m args below meth c 2 D A 0 0 _ 0 [some (.ref m0), some (.int q)] [] h
  refine yr_aload_n 1 C dX9_length_0 rfl rfl rfl ?_
  refine yr_iload_n 2 C dX9_length_1 rfl rfl ?_
  refine yr_V1v 5 C (mc_isDetector hZ _ _ hR) dX9_length_2 mt_X9_isDetector mv_X9_isDetector ml_X9_147 hR.1 rfl (Nat.le_of_ble_eq_true rfl) (Nat.le_of_ble_eq_true rfl) (Nat.le_of_ble_eq_true rfl) (Nat.le_of_ble_eq_true rfl) (Nat.le_of_ble_eq_true rfl) rfl (fun h hR => ?_)
  refine yb_eq 17 8 C dX9_length_5 (by decide) rfl (fun c5 => ?_) (fun c5 => ?_)
  · refine yr_iconst 18 C (-1) dX9_length_17 rfl rfl ?_
    refine yr_iret C dX9_length_18 hr (Nat.le_of_ble_eq_true rfl) (Nat.le_of_ble_eq_true rfl) ?_
    refine ⟨?_, hR⟩
    first | (simp [sp_length, e0, c5]; done) | simp [sp_length, c5]
  · obtain ⟨j, hj, rfl⟩ := m_isD_ix hI c5
    have h0 : S 19 0 = nI nd ∧ nd ≤ 12 := hI 2
    have e0 : ix (nI j) = j := ix_nI (by omega)
    refine yr_aload_n 9 C dX9_length_8 rfl rfl rfl ?_
    refine ym_getA 12 C hR dX9_length_9 fl_X9_59 (by decide) rfl rfl ?_
    refine yr_iload_n 13 C dX9_length_12 rfl rfl ?_
    refine ym_aldN 14 C hR dX9_length_13 (by decide) rfl rfl ?_ rfl ?_
    · simp only [mL]; omega
    refine yr_goto 18 C dX9_length_14 (by decide) ?_
    refine yr_iret C dX9_length_18 hr (Nat.le_of_ble_eq_true rfl) (Nat.le_of_ble_eq_true rfl) ?_
    refine ⟨?_, hR⟩
    first | (simp [sp_length, e0, c5]; done) | simp [sp_length, c5]
set_option maxHeartbeats 4000000 in
set_option maxRecDepth 100000 in
theorem mc_finding (hZ : yZok D dA Z) (q : Int32) (hI : mI S np ns nd no nr t) (h : yH) (hR : yMR dA ad m0 (S) h) : yM Z D yX9_finding cX9_finding 2 (some .int) 0 0 0 [.ref m0, .int q] h (fun r h' => r = some (.int (sp_finding S q).1) ∧ yMR dA ad m0 ((sp_finding S q).2) h') := by
  refine yM_of hZ (by decide) rfl (Nat.le_of_ble_eq_true rfl) ?_
  intro p l e s m args below meth c A C hr hin
  show yW p l e (yR 0 0 0) s m args below meth c 2 D A 0 0 _ 0 [some (.ref m0), some (.int q)] [] h
  refine yr_iload_n 1 C dX9_finding_0 rfl rfl ?_
  refine yr_if_ne 11 4 C dX9_finding_1 (by decide) rfl (fun c1 => ?_) (fun c1 => ?_)
  · refine yr_iload_n 12 C dX9_finding_11 rfl rfl ?_
    refine yr_iconst 13 C (1) dX9_finding_12 rfl rfl ?_
    refine yr_icmp_ne 23 16 C dX9_finding_13 (by decide) rfl (fun c13 => ?_) (fun c13 => ?_)
    · refine yr_iconst 24 C (-1) dX9_finding_23 rfl rfl ?_
      refine yr_iret C dX9_finding_24 hr (Nat.le_of_ble_eq_true rfl) (Nat.le_of_ble_eq_true rfl) ?_
      refine ⟨?_, hR⟩
      simp [sp_finding, c1, c13]
    · refine yr_aload_n 17 C dX9_finding_16 rfl rfl rfl ?_
      refine ym_get 20 C hR dX9_finding_17 fl_X9_111 (by decide) rfl rfl ?_
      refine yr_goto 24 C dX9_finding_20 (by decide) ?_
      refine yr_iret C dX9_finding_24 hr (Nat.le_of_ble_eq_true rfl) (Nat.le_of_ble_eq_true rfl) ?_
      refine ⟨?_, hR⟩
      simp [sp_finding, c1, c13]
  · refine yr_aload_n 5 C dX9_finding_4 rfl rfl rfl ?_
    refine ym_get 8 C hR dX9_finding_5 fl_X9_166 (by decide) rfl rfl ?_
    refine yr_goto 24 C dX9_finding_8 (by decide) ?_
    refine yr_iret C dX9_finding_24 hr (Nat.le_of_ble_eq_true rfl) (Nat.le_of_ble_eq_true rfl) ?_
    refine ⟨?_, hR⟩
    simp [sp_finding, c1]
set_option maxHeartbeats 4000000 in
set_option maxRecDepth 100000 in
theorem mc_lamp (hZ : yZok D dA Z) (q : Int32) (out : Int32) (ho : out = 0 ∨ out = 1) (hI : mI S np ns nd no nr t) (h : yH) (hR : yMR dA ad m0 (S) h) : yM Z D yX9_lamp cX9_lamp 4 (some .int) 2 0 0 [.ref m0, .int q, .int out] h (fun r h' => r = some (.int (sp_lamp S q out).1) ∧ yMR dA ad m0 ((sp_lamp S q out).2) h') := by
  refine yM_of hZ (by decide) rfl (Nat.le_of_ble_eq_true rfl) ?_
  intro p l e s m args below meth c A C hr hin
  show yW p l e (yR 2 0 0) s m args below meth c 4 D A 0 0 _ 0 [some (.ref m0), some (.int q), some (.int out), none] [] h
  refine yr_aload_n 1 C dX9_lamp_0 rfl rfl rfl ?_
  refine yr_iload_n 2 C dX9_lamp_1 rfl rfl ?_
  refine yr_V1v 5 C (mc_isPhase hZ _ _ hR) dX9_lamp_2 mt_X9_isPhase mv_X9_isPhase ml_X9_136 hR.1 rfl (Nat.le_of_ble_eq_true rfl) (Nat.le_of_ble_eq_true rfl) (Nat.le_of_ble_eq_true rfl) (Nat.le_of_ble_eq_true rfl) (Nat.le_of_ble_eq_true rfl) rfl (fun h hR => ?_)
  refine yb_ne 10 8 C dX9_lamp_5 (by decide) rfl (fun c5 => ?_) (fun c5 => ?_)
  · obtain ⟨j, hj, rfl⟩ := m_isP_ix hI c5
    have h0 : S 1 0 = nI np ∧ np ≤ 8 := hI 0
    have e0 : ix (nI j) = j := ix_nI (by omega)
    refine yr_aload_n 11 C dX9_lamp_10 rfl rfl rfl ?_
    refine ym_getA 14 C hR dX9_lamp_11 fl_X9_46 (by decide) rfl rfl ?_
    refine yr_iload_n 15 C dX9_lamp_14 rfl rfl ?_
    refine ym_zaldN 16 C hR dX9_lamp_15 (by decide) rfl rfl ?_ rfl ?_
    · simp only [mL]; omega
    refine yr_if_eq 23 19 C dX9_lamp_16 (by decide) rfl (fun c16 => ?_) (fun c16 => ?_)
    · refine yr_iconst 24 C (0) dX9_lamp_23 rfl rfl ?_
      refine yr_istore3 25 C dX9_lamp_24 (by decide) rfl ?_
      refine yr_aload_n 26 C dX9_lamp_25 rfl rfl rfl ?_
      refine ym_getA 29 C hR dX9_lamp_26 fl_X9_46 (by decide) rfl rfl ?_
      refine yr_iload_n 30 C dX9_lamp_29 rfl rfl ?_
      refine yr_iload_n 31 C dX9_lamp_30 rfl rfl ?_
      refine ym_zastN 32 C hR dX9_lamp_31 (by decide) rfl rfl ?_ ?_ rfl (fun h hR => ?_)
      · simp only [mL]; omega
      · exact ho
      refine yr_iload_n 33 C dX9_lamp_32 rfl rfl ?_
      refine yr_iret C dX9_lamp_33 hr (Nat.le_of_ble_eq_true rfl) (Nat.le_of_ble_eq_true rfl) ?_
      refine ⟨?_, ?_⟩
      · first | (simp [sp_lamp, e0, c5, c16]; done) | simp [sp_lamp, c5, c16]
      · first | (simpa [sp_lamp, e0, c5, c16] using hR) | simpa [sp_lamp, c5, c16] using hR
    · refine yr_iconst 20 C (1) dX9_lamp_19 rfl rfl ?_
      refine yr_goto 24 C dX9_lamp_20 (by decide) ?_
      refine yr_istore3 25 C dX9_lamp_24 (by decide) rfl ?_
      refine yr_aload_n 26 C dX9_lamp_25 rfl rfl rfl ?_
      refine ym_getA 29 C hR dX9_lamp_26 fl_X9_46 (by decide) rfl rfl ?_
      refine yr_iload_n 30 C dX9_lamp_29 rfl rfl ?_
      refine yr_iload_n 31 C dX9_lamp_30 rfl rfl ?_
      refine ym_zastN 32 C hR dX9_lamp_31 (by decide) rfl rfl ?_ ?_ rfl (fun h hR => ?_)
      · simp only [mL]; omega
      · exact ho
      refine yr_iload_n 33 C dX9_lamp_32 rfl rfl ?_
      refine yr_iret C dX9_lamp_33 hr (Nat.le_of_ble_eq_true rfl) (Nat.le_of_ble_eq_true rfl) ?_
      refine ⟨?_, ?_⟩
      · first | (simp [sp_lamp, e0, c5, c16]; done) | simp [sp_lamp, c5, c16]
      · first | (simpa [sp_lamp, e0, c5, c16] using hR) | simpa [sp_lamp, c5, c16] using hR
  · refine yr_iconst 9 C (-1) dX9_lamp_8 rfl rfl ?_
    refine yr_iret C dX9_lamp_9 hr (Nat.le_of_ble_eq_true rfl) (Nat.le_of_ble_eq_true rfl) ?_
    refine ⟨?_, ?_⟩
    · first | (simp [sp_lamp, e0, c5]; done) | simp [sp_lamp, c5]
    · first | (simpa [sp_lamp, e0, c5] using hR) | simpa [sp_lamp, c5] using hR
set_option maxHeartbeats 4000000 in
set_option maxRecDepth 100000 in
theorem mc_ask (hZ : yZok D dA Z) (q : Int32) (hI : mI S np ns nd no nr t) (h : yH) (hR : yMR dA ad m0 (S) h) : yM Z D yX9_ask cX9_ask 2 (some .int) 2 0 0 [.ref m0, .int q] h (fun r h' => r = some (.int (sp_ask S q).1) ∧ yMR dA ad m0 ((sp_ask S q).2) h') := by
  refine yM_of hZ (by decide) rfl (Nat.le_of_ble_eq_true rfl) ?_
  intro p l e s m args below meth c A C hr hin
  show yW p l e (yR 2 0 0) s m args below meth c 2 D A 0 0 _ 0 [some (.ref m0), some (.int q)] [] h
  refine yr_aload_n 1 C dX9_ask_0 rfl rfl rfl ?_
  refine yr_iload_n 2 C dX9_ask_1 rfl rfl ?_
  refine yr_V1v 5 C (mc_isPhase hZ _ _ hR) dX9_ask_2 mt_X9_isPhase mv_X9_isPhase ml_X9_136 hR.1 rfl (Nat.le_of_ble_eq_true rfl) (Nat.le_of_ble_eq_true rfl) (Nat.le_of_ble_eq_true rfl) (Nat.le_of_ble_eq_true rfl) (Nat.le_of_ble_eq_true rfl) rfl (fun h hR => ?_)
  refine yb_ne 10 8 C dX9_ask_5 (by decide) rfl (fun c5 => ?_) (fun c5 => ?_)
  · obtain ⟨j, hj, rfl⟩ := m_isP_ix hI c5
    have h0 : S 1 0 = nI np ∧ np ≤ 8 := hI 0
    have e0 : ix (nI j) = j := ix_nI (by omega)
    refine yr_aload_n 11 C dX9_ask_10 rfl rfl rfl ?_
    refine ym_getA 14 C hR dX9_ask_11 fl_X9_34 (by decide) rfl rfl ?_
    refine yr_iload_n 15 C dX9_ask_14 rfl rfl ?_
    refine ym_aldN 16 C hR dX9_ask_15 (by decide) rfl rfl ?_ rfl ?_
    · simp only [mL]; omega
    refine yr_if_ge 29 19 C dX9_ask_16 (by decide) rfl (fun c16 => ?_) (fun c16 => ?_)
    · refine yr_iconst 30 C (0) dX9_ask_29 rfl rfl ?_
      refine yr_iret C dX9_ask_30 hr (Nat.le_of_ble_eq_true rfl) (Nat.le_of_ble_eq_true rfl) ?_
      refine ⟨?_, ?_⟩
      · first | (simp [sp_ask, e0, c5, c16]; done) | simp [sp_ask, c5, c16]
      · first | (simpa [sp_ask, e0, c5, c16] using hR) | simpa [sp_ask, c5, c16] using hR
    · refine yr_aload_n 20 C dX9_ask_19 rfl rfl rfl ?_
      refine ym_getA 23 C hR dX9_ask_20 fl_X9_13 (by decide) rfl rfl ?_
      refine yr_iload_n 24 C dX9_ask_23 rfl rfl ?_
      refine ym_aldN 25 C hR dX9_ask_24 (by decide) rfl rfl ?_ rfl ?_
      · simp only [mL]; omega
      refine yr_iconst 26 C (1) dX9_ask_25 rfl rfl ?_
      refine yr_icmp_ne 31 29 C dX9_ask_26 (by decide) rfl (fun c26 => ?_) (fun c26 => ?_)
      · refine yr_aload_n 32 C dX9_ask_31 rfl rfl rfl ?_
        refine ym_getA 35 C hR dX9_ask_32 fl_X9_34 (by decide) rfl rfl ?_
        refine yr_iload_n 36 C dX9_ask_35 rfl rfl ?_
        refine yr_aload_n 37 C dX9_ask_36 rfl rfl rfl ?_
        refine ym_get 40 C hR dX9_ask_37 fl_X9_133 (by decide) rfl rfl ?_
        refine ym_astN 41 C hR dX9_ask_40 (by decide) rfl rfl ?_ rfl (fun h hR => ?_)
        · simp only [mL]; omega
        refine yr_iconst 42 C (1) dX9_ask_41 rfl rfl ?_
        refine yr_iret C dX9_ask_42 hr (Nat.le_of_ble_eq_true rfl) (Nat.le_of_ble_eq_true rfl) ?_
        refine ⟨?_, ?_⟩
        · first | (simp [sp_ask, e0, c5, c16, c26]; done) | simp [sp_ask, c5, c16, c26]
        · first | (simpa [sp_ask, e0, c5, c16, c26] using hR) | simpa [sp_ask, c5, c16, c26] using hR
      · refine yr_iconst 30 C (0) dX9_ask_29 rfl rfl ?_
        refine yr_iret C dX9_ask_30 hr (Nat.le_of_ble_eq_true rfl) (Nat.le_of_ble_eq_true rfl) ?_
        refine ⟨?_, ?_⟩
        · first | (simp [sp_ask, e0, c5, c16, c26]; done) | simp [sp_ask, c5, c16, c26]
        · first | (simpa [sp_ask, e0, c5, c16, c26] using hR) | simpa [sp_ask, c5, c16, c26] using hR
  · refine yr_iconst 9 C (-1) dX9_ask_8 rfl rfl ?_
    refine yr_iret C dX9_ask_9 hr (Nat.le_of_ble_eq_true rfl) (Nat.le_of_ble_eq_true rfl) ?_
    refine ⟨?_, ?_⟩
    · first | (simp [sp_ask, e0, c5]; done) | simp [sp_ask, c5]
    · first | (simpa [sp_ask, e0, c5] using hR) | simpa [sp_ask, c5] using hR
set_option maxHeartbeats 4000000 in
set_option maxRecDepth 100000 in
theorem mc_trace (hZ : yZok D dA Z)  (hI : mI S np ns nd no nr t) (h : yH) (hR : yMR dA ad m0 (S) h) : yM Z D yX9_trace cX9_trace 1 (some .int) 0 0 0 [.ref m0] h (fun r h' => r = some (.int (sp_trace S).1) ∧ yMR dA ad m0 ((sp_trace S).2) h') := by
  refine yM_of hZ (by decide) rfl (Nat.le_of_ble_eq_true rfl) ?_
  intro p l e s m args below meth c A C hr hin
  show yW p l e (yR 0 0 0) s m args below meth c 1 D A 0 0 _ 0 [some (.ref m0)] [] h
  refine yr_aload_n 1 C dX9_trace_0 rfl rfl rfl ?_
  refine ym_get 4 C hR dX9_trace_1 fl_X9_173 (by decide) rfl rfl ?_
  refine yr_iret C dX9_trace_4 hr (Nat.le_of_ble_eq_true rfl) (Nat.le_of_ble_eq_true rfl) ?_
  exact ⟨rfl, hR⟩
set_option maxHeartbeats 4000000 in
set_option maxRecDepth 100000 in
theorem mc_passing (hZ : yZok D dA Z) (q a b : Int32) (hI : mI S np ns nd no nr t) (h : yH) (hR : yMR dA ad m0 (S) h) : yM Z D yX9_passing cX9_passing 4 (some .int) 2 0 0 [.ref m0, .int q, .int a, .int b] h (fun r h' => r = some (.int (sp_passing S q a b).1) ∧ yMR dA ad m0 ((sp_passing S q a b).2) h') := by
  refine yM_of hZ (by decide) rfl (Nat.le_of_ble_eq_true rfl) ?_
  intro p l e s m args below meth c A C hr hin
  show yW p l e (yR 2 0 0) s m args below meth c 4 D A 0 0 _ 0 [some (.ref m0), some (.int q), some (.int a), some (.int b)] [] h
  refine yr_aload_n 1 C dX9_passing_0 rfl rfl rfl ?_
  refine yr_iload_n 2 C dX9_passing_1 rfl rfl ?_
  refine yr_V1v 5 C (mc_isDetector hZ _ _ hR) dX9_passing_2 mt_X9_isDetector mv_X9_isDetector ml_X9_147 hR.1 rfl (Nat.le_of_ble_eq_true rfl) (Nat.le_of_ble_eq_true rfl) (Nat.le_of_ble_eq_true rfl) (Nat.le_of_ble_eq_true rfl) (Nat.le_of_ble_eq_true rfl) rfl (fun h hR => ?_)
  refine yb_eq 30 8 C dX9_passing_5 (by decide) rfl (fun c5 => ?_) (fun c5 => ?_)
  · refine yr_iconst 31 C (-1) dX9_passing_30 rfl rfl ?_
    refine yr_iret C dX9_passing_31 hr (Nat.le_of_ble_eq_true rfl) (Nat.le_of_ble_eq_true rfl) ?_
    refine ⟨?_, ?_⟩
    · first | (simp [sp_passing, e0, c5]; done) | simp [sp_passing, c5]
    · first | (simpa [sp_passing, e0, c5] using hR) | simpa [sp_passing, c5] using hR
  · refine yr_iload_n 9 C dX9_passing_8 rfl rfl ?_
    refine yr_bipush 11 C (-128) dX9_passing_9 rfl rfl ?_
    refine yr_bipush 13 C (127) dX9_passing_11 rfl rfl ?_
    refine yr_S3v 16 C (mc_in hZ _ _ _ _) dX9_passing_13 mt_X9_in ms_X9_in ml_X9_123 (Nat.le_of_ble_eq_true rfl) (Nat.le_of_ble_eq_true rfl) (Nat.le_of_ble_eq_true rfl) (Nat.le_of_ble_eq_true rfl) (Nat.le_of_ble_eq_true rfl) rfl (fun h e => ?_)
    subst e
    refine yb_eq 30 19 C dX9_passing_16 (by decide) rfl (fun c16 => ?_) (fun c16 => ?_)
    · refine yr_iconst 31 C (-1) dX9_passing_30 rfl rfl ?_
      refine yr_iret C dX9_passing_31 hr (Nat.le_of_ble_eq_true rfl) (Nat.le_of_ble_eq_true rfl) ?_
      refine ⟨?_, ?_⟩
      · first | (simp [sp_passing, e0, c5, c16]; done) | simp [sp_passing, c5, c16]
      · first | (simpa [sp_passing, e0, c5, c16] using hR) | simpa [sp_passing, c5, c16] using hR
    · refine yr_iload_n 20 C dX9_passing_19 rfl rfl ?_
      refine yr_iconst 21 C (0) dX9_passing_20 rfl rfl ?_
      refine yr_sipush 24 C (10000) dX9_passing_21 rfl rfl ?_
      refine yr_S3v 27 C (mc_in hZ _ _ _ _) dX9_passing_24 mt_X9_in ms_X9_in ml_X9_123 (Nat.le_of_ble_eq_true rfl) (Nat.le_of_ble_eq_true rfl) (Nat.le_of_ble_eq_true rfl) (Nat.le_of_ble_eq_true rfl) (Nat.le_of_ble_eq_true rfl) rfl (fun h e => ?_)
      subst e
      refine yb_ne 32 30 C dX9_passing_27 (by decide) rfl (fun c27 => ?_) (fun c27 => ?_)
      · obtain ⟨j, hj, rfl⟩ := m_isD_ix hI c5
        have h0 : S 19 0 = nI nd ∧ nd ≤ 12 := hI 2
        have e0 : ix (nI j) = j := ix_nI (by omega)
        refine yr_aload_n 33 C dX9_passing_32 rfl rfl rfl ?_
        refine ym_getA 36 C hR dX9_passing_33 fl_X9_59 (by decide) rfl rfl ?_
        refine yr_iload_n 37 C dX9_passing_36 rfl rfl ?_
        refine ym_aldN 38 C hR dX9_passing_37 (by decide) rfl rfl ?_ rfl ?_
        · simp only [mL]; omega
        refine yr_if_ge 44 41 C dX9_passing_38 (by decide) rfl (fun c38 => ?_) (fun c38 => ?_)
        · refine yr_aload_n 45 C dX9_passing_44 rfl rfl rfl ?_
          refine ym_getA 48 C hR dX9_passing_45 fl_X9_59 (by decide) rfl rfl ?_
          refine yr_iload_n 49 C dX9_passing_48 rfl rfl ?_
          refine ym_aldN 50 C hR dX9_passing_49 (by decide) rfl rfl ?_ rfl ?_
          · simp only [mL]; omega
          refine yr_sipush 53 C (200) dX9_passing_50 rfl rfl ?_
          refine yr_icmp_ne 59 56 C dX9_passing_53 (by decide) rfl (fun c53 => ?_) (fun c53 => ?_)
          · have h8 : cO (S 20 j) 201 := (show ∀ d, d < nd → cO (S 20 d) 201 from hI 8) j hj
            obtain ⟨k, hk, ek⟩ : ∃ k : Nat, k < 200 ∧ S 20 j = nI k := by
              rcases h8 with e | ⟨k, hk, e⟩
              · rw [e] at c38; exact absurd c38 (by decide)
              · refine ⟨k, ?_, e⟩
                have : k ≠ 200 := fun z => c53 (by rw [e, z]; rfl)
                omega
            have e1 : ix (S 20 j) = k := by rw [ek]; exact ix_nI (by omega)
            refine yr_aload_n 60 C dX9_passing_59 rfl rfl rfl ?_
            refine ym_getA 63 C hR dX9_passing_60 fl_X9_62 (by decide) rfl rfl ?_
            refine yr_sipush 66 C (200) dX9_passing_63 rfl rfl ?_
            refine yr_iload_n 67 C dX9_passing_66 rfl rfl ?_
            refine yr_imul 68 C dX9_passing_67 rfl ?_
            refine yr_aload_n 69 C dX9_passing_68 rfl rfl rfl ?_
            refine ym_getA 72 C hR dX9_passing_69 fl_X9_59 (by decide) rfl rfl ?_
            refine yr_iload_n 73 C dX9_passing_72 rfl rfl ?_
            refine ym_aldN 74 C hR dX9_passing_73 (by decide) rfl rfl ?_ rfl ?_
            · simp only [mL]; omega
            rw [ek]
            refine yr_iadd 75 C dX9_passing_74 rfl ?_
            rw [show (200 : Int32) * nI j + nI k = nI (200 * j + k) from ixm]
            refine yr_iload_n 76 C dX9_passing_75 rfl rfl ?_
            refine ym_astN 77 C hR dX9_passing_76 (by decide) rfl rfl ?_ rfl (fun h hR => ?_)
            · simp only [mL]; omega
            refine yr_aload_n 78 C dX9_passing_77 rfl rfl rfl ?_
            refine ym_getA 81 C hR dX9_passing_78 fl_X9_65 (by decide) rfl rfl ?_
            refine yr_sipush 84 C (200) dX9_passing_81 rfl rfl ?_
            refine yr_iload_n 85 C dX9_passing_84 rfl rfl ?_
            refine yr_imul 86 C dX9_passing_85 rfl ?_
            refine yr_aload_n 87 C dX9_passing_86 rfl rfl rfl ?_
            refine ym_getA 90 C hR dX9_passing_87 fl_X9_59 (by decide) rfl rfl ?_
            refine yr_iload_n 91 C dX9_passing_90 rfl rfl ?_
            refine ym_aldN 92 C hR dX9_passing_91 (by decide) rfl rfl ?_ rfl ?_
            · simp only [mL]; omega
            rw [mset_ne S _ (show 20 ≠ 21 by decide), ek]
            refine yr_iadd 93 C dX9_passing_92 rfl ?_
            rw [show (200 : Int32) * nI j + nI k = nI (200 * j + k) from ixm]
            refine yr_iload_n 94 C dX9_passing_93 rfl rfl ?_
            refine ym_astN 95 C hR dX9_passing_94 (by decide) rfl rfl ?_ rfl (fun h hR => ?_)
            · simp only [mL]; omega
            refine yr_aload_n 96 C dX9_passing_95 rfl rfl rfl ?_
            refine ym_getA 99 C hR dX9_passing_96 fl_X9_59 (by decide) rfl rfl ?_
            refine yr_iload_n 100 C dX9_passing_99 rfl rfl ?_
            refine yr_dup2 101 C dX9_passing_100 rfl rfl rfl ?_
            refine ym_aldN 102 C hR dX9_passing_101 (by decide) rfl rfl ?_ rfl ?_
            · simp only [mL]; omega
            refine yr_iconst 103 C (1) dX9_passing_102 rfl rfl ?_
            refine yr_iadd 104 C dX9_passing_103 rfl ?_
            refine ym_astN 105 C hR dX9_passing_104 (by decide) rfl rfl ?_ rfl (fun h hR => ?_)
            · simp only [mL]; omega
            refine yr_aload_n 106 C dX9_passing_105 rfl rfl rfl ?_
            refine ym_getA 109 C hR dX9_passing_106 fl_X9_59 (by decide) rfl rfl ?_
            refine yr_iload_n 110 C dX9_passing_109 rfl rfl ?_
            refine ym_aldN 111 C hR dX9_passing_110 (by decide) rfl rfl ?_ rfl ?_
            · simp only [mL]; omega
            refine yr_iret C dX9_passing_111 hr (Nat.le_of_ble_eq_true rfl) (Nat.le_of_ble_eq_true rfl) ?_
            simp only [mset_ne _ _ (show 20 ≠ 21 by decide), mset_ne _ _ (show 20 ≠ 22 by decide), mset_same] at hR ⊢
            refine ⟨?_, ?_⟩
            · simp [sp_passing, e0, c5, c16, c27, c38, c53]
            · simpa [sp_passing, e0, e1, c5, c16, c27, c38, c53] using hR
          · refine yr_bipush 58 C (-2) dX9_passing_56 rfl rfl ?_
            refine yr_iret C dX9_passing_58 hr (Nat.le_of_ble_eq_true rfl) (Nat.le_of_ble_eq_true rfl) ?_
            refine ⟨?_, ?_⟩
            · first | (simp [sp_passing, e0, c5, c16, c27, c38, c53]; done) | simp [sp_passing, c5, c16, c27, c38, c53]
            · first | (simpa [sp_passing, e0, c5, c16, c27, c38, c53] using hR) | simpa [sp_passing, c5, c16, c27, c38, c53] using hR
        · refine yr_bipush 43 C (-3) dX9_passing_41 rfl rfl ?_
          refine yr_iret C dX9_passing_43 hr (Nat.le_of_ble_eq_true rfl) (Nat.le_of_ble_eq_true rfl) ?_
          refine ⟨?_, ?_⟩
          · first | (simp [sp_passing, e0, c5, c16, c27, c38]; done) | simp [sp_passing, c5, c16, c27, c38]
          · first | (simpa [sp_passing, e0, c5, c16, c27, c38] using hR) | simpa [sp_passing, c5, c16, c27, c38] using hR
      · refine yr_iconst 31 C (-1) dX9_passing_30 rfl rfl ?_
        refine yr_iret C dX9_passing_31 hr (Nat.le_of_ble_eq_true rfl) (Nat.le_of_ble_eq_true rfl) ?_
        refine ⟨?_, ?_⟩
        · first | (simp [sp_passing, e0, c5, c16, c27]; done) | simp [sp_passing, c5, c16, c27]
        · first | (simpa [sp_passing, e0, c5, c16, c27] using hR) | simpa [sp_passing, c5, c16, c27] using hR
set_option maxHeartbeats 4000000 in
set_option maxRecDepth 100000 in
theorem mc_table (hZ : yZok D dA Z) (q a b f u : Int32) (hI : mI S np ns nd no nr t) (h : yH) (hR : yMR dA ad m0 (S) h) : yM Z D yX9_table cX9_table 6 (some .int) 2 0 0 [.ref m0, .int q, .int a, .int b, .int f, .int u] h (fun r h' => r = some (.int (sp_table S q a b f u).1) ∧ yMR dA ad m0 ((sp_table S q a b f u).2) h') := by
  refine yM_of hZ (by decide) rfl (Nat.le_of_ble_eq_true rfl) ?_
  intro p l e s m args below meth c A C hr hin
  show yW p l e (yR 2 0 0) s m args below meth c 6 D A 0 0 _ 0 [some (.ref m0), some (.int q), some (.int a), some (.int b), some (.int f), some (.int u)] [] h
  refine yr_aload_n 1 C dX9_table_0 rfl rfl rfl ?_
  refine yr_iload_n 2 C dX9_table_1 rfl rfl ?_
  refine yr_V1v 5 C (mc_isPhase hZ _ _ hR) dX9_table_2 mt_X9_isPhase mv_X9_isPhase ml_X9_136 hR.1 rfl (Nat.le_of_ble_eq_true rfl) (Nat.le_of_ble_eq_true rfl) (Nat.le_of_ble_eq_true rfl) (Nat.le_of_ble_eq_true rfl) (Nat.le_of_ble_eq_true rfl) rfl (fun h hR => ?_)
  refine yb_eq 48 8 C dX9_table_5 (by decide) rfl (fun c5 => ?_) (fun c5 => ?_)
  · refine yr_iconst 49 C (-1) dX9_table_48 rfl rfl ?_
    refine yr_iret C dX9_table_49 hr (Nat.le_of_ble_eq_true rfl) (Nat.le_of_ble_eq_true rfl) ?_
    refine ⟨?_, ?_⟩
    · simp [sp_table, c5]
    · simpa [sp_table, c5] using hR
  · refine yr_iload_n 9 C dX9_table_8 rfl rfl ?_
    refine yr_iconst 10 C (1) dX9_table_9 rfl rfl ?_
    refine yr_bipush 12 C (60) dX9_table_10 rfl rfl ?_
    refine yr_S3v 15 C (mc_in hZ _ _ _ _) dX9_table_12 mt_X9_in ms_X9_in ml_X9_123 (Nat.le_of_ble_eq_true rfl) (Nat.le_of_ble_eq_true rfl) (Nat.le_of_ble_eq_true rfl) (Nat.le_of_ble_eq_true rfl) (Nat.le_of_ble_eq_true rfl) rfl (fun h e => ?_)
    subst e
    refine yb_eq 48 18 C dX9_table_15 (by decide) rfl (fun c15 => ?_) (fun c15 => ?_)
    · refine yr_iconst 49 C (-1) dX9_table_48 rfl rfl ?_
      refine yr_iret C dX9_table_49 hr (Nat.le_of_ble_eq_true rfl) (Nat.le_of_ble_eq_true rfl) ?_
      refine ⟨?_, ?_⟩
      · simp [sp_table, c5, c15]
      · simpa [sp_table, c5, c15] using hR
    · refine yr_iload_n 19 C dX9_table_18 rfl rfl ?_
      refine yr_iload_n 20 C dX9_table_19 rfl rfl ?_
      refine yr_bipush 22 C (120) dX9_table_20 rfl rfl ?_
      refine yr_S3v 25 C (mc_in hZ _ _ _ _) dX9_table_22 mt_X9_in ms_X9_in ml_X9_123 (Nat.le_of_ble_eq_true rfl) (Nat.le_of_ble_eq_true rfl) (Nat.le_of_ble_eq_true rfl) (Nat.le_of_ble_eq_true rfl) (Nat.le_of_ble_eq_true rfl) rfl (fun h e => ?_)
      subst e
      refine yb_eq 48 28 C dX9_table_25 (by decide) rfl (fun c25 => ?_) (fun c25 => ?_)
      · refine yr_iconst 49 C (-1) dX9_table_48 rfl rfl ?_
        refine yr_iret C dX9_table_49 hr (Nat.le_of_ble_eq_true rfl) (Nat.le_of_ble_eq_true rfl) ?_
        refine ⟨?_, ?_⟩
        · simp [sp_table, c5, c15, c25]
        · simpa [sp_table, c5, c15, c25] using hR
      · refine yr_iload 30 C dX9_table_28 rfl rfl ?_
        refine yr_iconst 31 C (0) dX9_table_30 rfl rfl ?_
        refine yr_bipush 33 C (9) dX9_table_31 rfl rfl ?_
        refine yr_S3v 36 C (mc_in hZ _ _ _ _) dX9_table_33 mt_X9_in ms_X9_in ml_X9_123 (Nat.le_of_ble_eq_true rfl) (Nat.le_of_ble_eq_true rfl) (Nat.le_of_ble_eq_true rfl) (Nat.le_of_ble_eq_true rfl) (Nat.le_of_ble_eq_true rfl) rfl (fun h e => ?_)
        subst e
        refine yb_eq 48 39 C dX9_table_36 (by decide) rfl (fun c36 => ?_) (fun c36 => ?_)
        · refine yr_iconst 49 C (-1) dX9_table_48 rfl rfl ?_
          refine yr_iret C dX9_table_49 hr (Nat.le_of_ble_eq_true rfl) (Nat.le_of_ble_eq_true rfl) ?_
          refine ⟨?_, ?_⟩
          · simp [sp_table, c5, c15, c25, c36]
          · simpa [sp_table, c5, c15, c25, c36] using hR
        · refine yr_iload 41 C dX9_table_39 rfl rfl ?_
          refine yr_aload_n 42 C dX9_table_41 rfl rfl rfl ?_
          refine ym_get 45 C hR dX9_table_42 fl_X9_133 (by decide) rfl rfl ?_
          refine yr_icmp_ge 50 48 C dX9_table_45 (by decide) rfl (fun c45 => ?_) (fun c45 => ?_)
          · refine yr_aload_n 51 C dX9_table_50 rfl rfl rfl ?_
            refine ym_get 54 C hR dX9_table_51 fl_X9_150 (by decide) rfl rfl ?_
            refine yr_bipush 56 C (16) dX9_table_54 rfl rfl ?_
            refine yr_icmp_ne 62 59 C dX9_table_56 (by decide) rfl (fun c56 => ?_) (fun c56 => ?_)
            · have h3 : S 23 0 = nI no ∧ no ≤ 16 := hI 3
              have h8 : no < 16 := by
                have : no ≠ 16 := fun e => c56 (by rw [h3.1, e]; rfl)
                omega
              have e1 : ix (S 23 0) = no := by rw [h3.1]; exact ix_nI (by omega)
              refine yr_aload_n 63 C dX9_table_62 rfl rfl rfl ?_
              refine ym_getA 66 C hR dX9_table_63 fl_X9_68 (by decide) rfl rfl ?_
              refine yr_aload_n 67 C dX9_table_66 rfl rfl rfl ?_
              refine ym_get 70 C hR dX9_table_67 fl_X9_150 (by decide) rfl rfl ?_
              rw [h3.1]
              refine yr_iload_n 71 C dX9_table_70 rfl rfl ?_
              refine ym_astN 72 C hR dX9_table_71 (by decide) rfl rfl ?_ rfl (fun h hR => ?_)
              · simp only [mL]; omega
              refine yr_aload_n 73 C dX9_table_72 rfl rfl rfl ?_
              refine ym_getA 76 C hR dX9_table_73 fl_X9_71 (by decide) rfl rfl ?_
              refine yr_aload_n 77 C dX9_table_76 rfl rfl rfl ?_
              refine ym_get 80 C hR dX9_table_77 fl_X9_150 (by decide) rfl rfl ?_
              simp only [mset_ne _ _ (show 23 ≠ 24 by decide), h3.1]
              refine yr_iload_n 81 C dX9_table_80 rfl rfl ?_
              refine ym_astN 82 C hR dX9_table_81 (by decide) rfl rfl ?_ rfl (fun h hR => ?_)
              · simp only [mL]; omega
              refine yr_aload_n 83 C dX9_table_82 rfl rfl rfl ?_
              refine ym_getA 86 C hR dX9_table_83 fl_X9_74 (by decide) rfl rfl ?_
              refine yr_aload_n 87 C dX9_table_86 rfl rfl rfl ?_
              refine ym_get 90 C hR dX9_table_87 fl_X9_150 (by decide) rfl rfl ?_
              simp only [mset_ne _ _ (show 23 ≠ 25 by decide), mset_ne _ _ (show 23 ≠ 24 by decide), h3.1]
              refine yr_iload_n 91 C dX9_table_90 rfl rfl ?_
              refine ym_astN 92 C hR dX9_table_91 (by decide) rfl rfl ?_ rfl (fun h hR => ?_)
              · simp only [mL]; omega
              refine yr_aload_n 93 C dX9_table_92 rfl rfl rfl ?_
              refine ym_getA 96 C hR dX9_table_93 fl_X9_77 (by decide) rfl rfl ?_
              refine yr_aload_n 97 C dX9_table_96 rfl rfl rfl ?_
              refine ym_get 100 C hR dX9_table_97 fl_X9_150 (by decide) rfl rfl ?_
              simp only [mset_ne _ _ (show 23 ≠ 26 by decide), mset_ne _ _ (show 23 ≠ 25 by decide), mset_ne _ _ (show 23 ≠ 24 by decide), h3.1]
              refine yr_iload 102 C dX9_table_100 rfl rfl ?_
              refine ym_astN 103 C hR dX9_table_102 (by decide) rfl rfl ?_ rfl (fun h hR => ?_)
              · simp only [mL]; omega
              refine yr_aload_n 104 C dX9_table_103 rfl rfl rfl ?_
              refine ym_getA 107 C hR dX9_table_104 fl_X9_80 (by decide) rfl rfl ?_
              refine yr_aload_n 108 C dX9_table_107 rfl rfl rfl ?_
              refine ym_get 111 C hR dX9_table_108 fl_X9_150 (by decide) rfl rfl ?_
              simp only [mset_ne _ _ (show 23 ≠ 27 by decide), mset_ne _ _ (show 23 ≠ 26 by decide), mset_ne _ _ (show 23 ≠ 25 by decide), mset_ne _ _ (show 23 ≠ 24 by decide), h3.1]
              refine yr_iload 113 C dX9_table_111 rfl rfl ?_
              refine ym_astN 114 C hR dX9_table_113 (by decide) rfl rfl ?_ rfl (fun h hR => ?_)
              · simp only [mL]; omega
              refine yr_aload_n 115 C dX9_table_114 rfl rfl rfl ?_
              refine yr_dup 116 C dX9_table_115 rfl rfl ?_
              refine ym_get 119 C hR dX9_table_116 fl_X9_150 (by decide) rfl rfl ?_
              refine yr_iconst 120 C (1) dX9_table_119 rfl rfl ?_
              refine yr_iadd 121 C dX9_table_120 rfl ?_
              refine ym_put 124 C hR dX9_table_121 fp_X9_150 (by decide) rfl rfl (fun h hR => ?_)
              refine yr_aload_n 125 C dX9_table_124 rfl rfl rfl ?_
              refine ym_get 128 C hR dX9_table_125 fl_X9_150 (by decide) rfl rfl ?_
              refine yr_iret C dX9_table_128 hr (Nat.le_of_ble_eq_true rfl) (Nat.le_of_ble_eq_true rfl) ?_
              simp only [mset_ne _ _ (show 23 ≠ 24 by decide), mset_ne _ _ (show 23 ≠ 25 by decide), mset_ne _ _ (show 23 ≠ 26 by decide), mset_ne _ _ (show 23 ≠ 27 by decide), mset_ne _ _ (show 23 ≠ 28 by decide), mset_same] at hR ⊢
              refine ⟨?_, ?_⟩
              · simp [sp_table, c5, c15, c25, c36, c45, c56]
              · simpa [sp_table, e1, c5, c15, c25, c36, c45, c56] using hR
            · refine yr_bipush 61 C (-2) dX9_table_59 rfl rfl ?_
              refine yr_iret C dX9_table_61 hr (Nat.le_of_ble_eq_true rfl) (Nat.le_of_ble_eq_true rfl) ?_
              refine ⟨?_, ?_⟩
              · simp [sp_table, c5, c15, c25, c36, c45, c56]
              · simpa [sp_table, c5, c15, c25, c36, c45, c56] using hR
          · refine yr_iconst 49 C (-1) dX9_table_48 rfl rfl ?_
            refine yr_iret C dX9_table_49 hr (Nat.le_of_ble_eq_true rfl) (Nat.le_of_ble_eq_true rfl) ?_
            refine ⟨?_, ?_⟩
            · simp [sp_table, c5, c15, c25, c36, c45]
            · simpa [sp_table, c5, c15, c25, c36, c45] using hR
set_option maxHeartbeats 4000000 in
set_option maxRecDepth 100000 in
theorem mc_pair (hZ : yZok D dA Z) (q a b : Int32) (hI : mI S np ns nd no nr t) (h : yH) (hR : yMR dA ad m0 (S) h) : yM Z D yX9_pair cX9_pair 4 (some .int) 2 0 0 [.ref m0, .int q, .int a, .int b] h (fun r h' => r = some (.int (sp_pair S q a b).1) ∧ yMR dA ad m0 ((sp_pair S q a b).2) h') := by
  refine yM_of hZ (by decide) rfl (Nat.le_of_ble_eq_true rfl) ?_
  intro p l e s m args below meth c A C hr hin
  show yW p l e (yR 2 0 0) s m args below meth c 4 D A 0 0 _ 0 [some (.ref m0), some (.int q), some (.int a), some (.int b)] [] h
  refine yr_aload_n 1 C dX9_pair_0 rfl rfl rfl ?_
  refine yr_iload_n 2 C dX9_pair_1 rfl rfl ?_
  refine yr_V1v 5 C (mc_isDetector hZ _ _ hR) dX9_pair_2 mt_X9_isDetector mv_X9_isDetector ml_X9_147 hR.1 rfl (Nat.le_of_ble_eq_true rfl) (Nat.le_of_ble_eq_true rfl) (Nat.le_of_ble_eq_true rfl) (Nat.le_of_ble_eq_true rfl) (Nat.le_of_ble_eq_true rfl) rfl (fun h hR => ?_)
  refine yb_eq 31 8 C dX9_pair_5 (by decide) rfl (fun c5 => ?_) (fun c5 => ?_)
  · refine yr_iconst 32 C (-1) dX9_pair_31 rfl rfl ?_
    refine yr_iret C dX9_pair_32 hr (Nat.le_of_ble_eq_true rfl) (Nat.le_of_ble_eq_true rfl) ?_
    refine ⟨?_, ?_⟩
    · simp [sp_pair, c5]
    · simpa [sp_pair, c5] using hR
  · refine yr_aload_n 9 C dX9_pair_8 rfl rfl rfl ?_
    refine yr_iload_n 10 C dX9_pair_9 rfl rfl ?_
    refine yr_V1v 13 C (mc_isDetector hZ _ _ hR) dX9_pair_10 mt_X9_isDetector mv_X9_isDetector ml_X9_147 hR.1 rfl (Nat.le_of_ble_eq_true rfl) (Nat.le_of_ble_eq_true rfl) (Nat.le_of_ble_eq_true rfl) (Nat.le_of_ble_eq_true rfl) (Nat.le_of_ble_eq_true rfl) rfl (fun h hR => ?_)
    refine yb_eq 31 16 C dX9_pair_13 (by decide) rfl (fun c13 => ?_) (fun c13 => ?_)
    · refine yr_iconst 32 C (-1) dX9_pair_31 rfl rfl ?_
      refine yr_iret C dX9_pair_32 hr (Nat.le_of_ble_eq_true rfl) (Nat.le_of_ble_eq_true rfl) ?_
      refine ⟨?_, ?_⟩
      · simp [sp_pair, c5, c13]
      · simpa [sp_pair, c5, c13] using hR
    · refine yr_iload_n 17 C dX9_pair_16 rfl rfl ?_
      refine yr_iload_n 18 C dX9_pair_17 rfl rfl ?_
      refine yr_icmp_eq 31 21 C dX9_pair_18 (by decide) rfl (fun c18 => ?_) (fun c18 => ?_)
      · refine yr_iconst 32 C (-1) dX9_pair_31 rfl rfl ?_
        refine yr_iret C dX9_pair_32 hr (Nat.le_of_ble_eq_true rfl) (Nat.le_of_ble_eq_true rfl) ?_
        refine ⟨?_, ?_⟩
        · simp [sp_pair, c5, c13, c18]
        · simpa [sp_pair, c5, c13, c18] using hR
      · refine yr_iload_n 22 C dX9_pair_21 rfl rfl ?_
        refine yr_iconst 23 C (1) dX9_pair_22 rfl rfl ?_
        refine yr_bipush 25 C (60) dX9_pair_23 rfl rfl ?_
        refine yr_S3v 28 C (mc_in hZ _ _ _ _) dX9_pair_25 mt_X9_in ms_X9_in ml_X9_123 (Nat.le_of_ble_eq_true rfl) (Nat.le_of_ble_eq_true rfl) (Nat.le_of_ble_eq_true rfl) (Nat.le_of_ble_eq_true rfl) (Nat.le_of_ble_eq_true rfl) rfl (fun h e => ?_)
        subst e
        refine yb_ne 33 31 C dX9_pair_28 (by decide) rfl (fun c28 => ?_) (fun c28 => ?_)
        · refine yr_aload_n 34 C dX9_pair_33 rfl rfl rfl ?_
          refine ym_get 37 C hR dX9_pair_34 fl_X9_153 (by decide) rfl rfl ?_
          refine yr_bipush 39 C (6) dX9_pair_37 rfl rfl ?_
          refine yr_icmp_ne 45 42 C dX9_pair_39 (by decide) rfl (fun c39 => ?_) (fun c39 => ?_)
          · have h3 : S 29 0 = nI nr ∧ nr ≤ 6 := hI 4
            have h8 : nr < 6 := by
              have : nr ≠ 6 := fun e => c39 (by rw [h3.1, e]; rfl)
              omega
            have e1 : ix (S 29 0) = nr := by rw [h3.1]; exact ix_nI (by omega)
            refine yr_aload_n 46 C dX9_pair_45 rfl rfl rfl ?_
            refine ym_getA 49 C hR dX9_pair_46 fl_X9_83 (by decide) rfl rfl ?_
            refine yr_aload_n 50 C dX9_pair_49 rfl rfl rfl ?_
            refine ym_get 53 C hR dX9_pair_50 fl_X9_153 (by decide) rfl rfl ?_
            rw [h3.1]
            refine yr_iload_n 54 C dX9_pair_53 rfl rfl ?_
            refine ym_astN 55 C hR dX9_pair_54 (by decide) rfl rfl ?_ rfl (fun h hR => ?_)
            · simp only [mL]; omega
            refine yr_aload_n 56 C dX9_pair_55 rfl rfl rfl ?_
            refine ym_getA 59 C hR dX9_pair_56 fl_X9_86 (by decide) rfl rfl ?_
            refine yr_aload_n 60 C dX9_pair_59 rfl rfl rfl ?_
            refine ym_get 63 C hR dX9_pair_60 fl_X9_153 (by decide) rfl rfl ?_
            simp only [mset_ne _ _ (show 29 ≠ 30 by decide), h3.1]
            refine yr_iload_n 64 C dX9_pair_63 rfl rfl ?_
            refine ym_astN 65 C hR dX9_pair_64 (by decide) rfl rfl ?_ rfl (fun h hR => ?_)
            · simp only [mL]; omega
            refine yr_aload_n 66 C dX9_pair_65 rfl rfl rfl ?_
            refine ym_getA 69 C hR dX9_pair_66 fl_X9_89 (by decide) rfl rfl ?_
            refine yr_aload_n 70 C dX9_pair_69 rfl rfl rfl ?_
            refine ym_get 73 C hR dX9_pair_70 fl_X9_153 (by decide) rfl rfl ?_
            simp only [mset_ne _ _ (show 29 ≠ 31 by decide), mset_ne _ _ (show 29 ≠ 30 by decide), h3.1]
            refine yr_iload_n 74 C dX9_pair_73 rfl rfl ?_
            refine ym_astN 75 C hR dX9_pair_74 (by decide) rfl rfl ?_ rfl (fun h hR => ?_)
            · simp only [mL]; omega
            refine yr_aload_n 76 C dX9_pair_75 rfl rfl rfl ?_
            refine ym_getA 79 C hR dX9_pair_76 fl_X9_92 (by decide) rfl rfl ?_
            refine yr_aload_n 80 C dX9_pair_79 rfl rfl rfl ?_
            refine ym_get 83 C hR dX9_pair_80 fl_X9_153 (by decide) rfl rfl ?_
            simp only [mset_ne _ _ (show 29 ≠ 32 by decide), mset_ne _ _ (show 29 ≠ 31 by decide), mset_ne _ _ (show 29 ≠ 30 by decide), h3.1]
            refine yr_iconst 84 C (0) dX9_pair_83 rfl rfl ?_
            refine ym_astN 85 C hR dX9_pair_84 (by decide) rfl rfl ?_ rfl (fun h hR => ?_)
            · simp only [mL]; omega
            refine yr_aload_n 86 C dX9_pair_85 rfl rfl rfl ?_
            refine yr_dup 87 C dX9_pair_86 rfl rfl ?_
            refine ym_get 90 C hR dX9_pair_87 fl_X9_153 (by decide) rfl rfl ?_
            refine yr_iconst 91 C (1) dX9_pair_90 rfl rfl ?_
            refine yr_iadd 92 C dX9_pair_91 rfl ?_
            refine ym_put 95 C hR dX9_pair_92 fp_X9_153 (by decide) rfl rfl (fun h hR => ?_)
            refine yr_aload_n 96 C dX9_pair_95 rfl rfl rfl ?_
            refine ym_get 99 C hR dX9_pair_96 fl_X9_153 (by decide) rfl rfl ?_
            refine yr_iconst 100 C (1) dX9_pair_99 rfl rfl ?_
            refine yr_isub 101 C dX9_pair_100 rfl ?_
            refine yr_iret C dX9_pair_101 hr (Nat.le_of_ble_eq_true rfl) (Nat.le_of_ble_eq_true rfl) ?_
            simp only [mset_ne _ _ (show 29 ≠ 33 by decide), mset_ne _ _ (show 29 ≠ 32 by decide), mset_ne _ _ (show 29 ≠ 31 by decide), mset_ne _ _ (show 29 ≠ 30 by decide), mset_same] at hR ⊢
            refine ⟨?_, ?_⟩
            · simp [sp_pair, c5, c13, c18, c28, c39]
            · simpa [sp_pair, e1, c5, c13, c18, c28, c39] using hR
          · refine yr_bipush 44 C (-2) dX9_pair_42 rfl rfl ?_
            refine yr_iret C dX9_pair_44 hr (Nat.le_of_ble_eq_true rfl) (Nat.le_of_ble_eq_true rfl) ?_
            refine ⟨?_, ?_⟩
            · simp [sp_pair, c5, c13, c18, c28, c39]
            · simpa [sp_pair, c5, c13, c18, c28, c39] using hR
        · refine yr_iconst 32 C (-1) dX9_pair_31 rfl rfl ?_
          refine yr_iret C dX9_pair_32 hr (Nat.le_of_ble_eq_true rfl) (Nat.le_of_ble_eq_true rfl) ?_
          refine ⟨?_, ?_⟩
          · simp [sp_pair, c5, c13, c18, c28]
          · simpa [sp_pair, c5, c13, c18, c28] using hR
end M3
