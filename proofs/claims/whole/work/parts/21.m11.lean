theorem m_passS_eq {S : yS} {np ns nd no nr t : Nat} (hI : mI S np ns nd no nr t) (ht : t < 2 ^ 20) : m_passS S = m_pass S np ns no nr t := by
  have h0 : S 1 0 = nI np ∧ np ≤ 8 := hI 0
  have h1 : S 17 0 = nI ns ∧ ns ≤ 6 := hI 1
  have h3 : S 23 0 = nI no ∧ no ≤ 16 := hI 3
  have h4 : S 29 0 = nI nr ∧ nr ≤ 6 := hI 4
  have h5 : S 0 0 = nI t := hI 5
  unfold m_passS
  rw [h0.1, h1.1, h3.1, h4.1, h5, ix_nI (by omega), ix_nI (by omega), ix_nI (by omega), ix_nI (by omega), ix_nI (by omega)]
def m_cfL (S : yS) (p q : Int32) : Nat → Nat → Bool
  | 0, _ => false
  | j + 1, i => if m_has S i p then (if m_has S i q then true else m_cfL S p q j (i + 1)) else m_cfL S p q j (i + 1)
def sp_conflict (S : yS) (p q a b : Int32) : Int32 × yS := if m_isP S p && m_isP S q && !decide (p = q) && m_in a 0 20 && m_in b 0 20 then (if S 0 0 ≤ 0 then (if m_cfL S p q (ix (S 17 0)) 0 then (-4, S) else (1, mset (mset S 16 (8 * ix p + ix q) (a + 1)) 16 (8 * ix q + ix p) (b + 1))) else (-3, S)) else (-1, S)
section M11
variable {Z : (Nat → Prop) → State → Prop} {D : va_G} {dA : Nat → ClassId} {ad : Nat → Nat} {m0 : Nat} {S : yS} {np ns nd no nr t : Nat}
set_option maxHeartbeats 4000000 in
set_option maxRecDepth 100000 in
theorem mc_second_open (hZ : yZok D dA Z) (q : Int32) (hI : mI S np ns nd no nr t) (ht : t + 4 < 2 ^ 20) (hP : ∀ (S : yS) (no t : Nat), mI S np ns nd no nr t → t < 2 ^ 20 → ∃ no2, mI (m_pass S np ns no nr t).2 np ns nd no2 nr (t + 1)) (h : yH) (hR : yMR dA ad m0 (S) h) : yM Z D yX9_second cX9_second 4 (some .int) 5 0 0 [.ref m0, .int q] h (fun r h' => r = some (.int (sp_second S q).1) ∧ yMR dA ad m0 ((sp_second S q).2) h') := by
  refine yM_of hZ (by decide) rfl (Nat.le_of_ble_eq_true rfl) ?_
  intro p l e s m args below meth c A C hr hin
  show yW p l e (yR 5 0 0) s m args below meth c 4 D A 0 0 _ 0 [some (.ref m0), some (.int q), none, none] [] h
  refine yr_iload_n 1 C dX9_second_0 rfl rfl ?_
  refine yr_iconst 2 C (0) dX9_second_1 rfl rfl ?_
  refine yr_iconst 3 C (4) dX9_second_2 rfl rfl ?_
  refine yr_S3v 6 C (mc_in hZ _ _ _ _) dX9_second_3 mt_X9_in ms_X9_in ml_X9_123 (Nat.le_of_ble_eq_true rfl) (Nat.le_of_ble_eq_true rfl) (Nat.le_of_ble_eq_true rfl) (Nat.le_of_ble_eq_true rfl) (Nat.le_of_ble_eq_true rfl) rfl (fun h e => ?_)
  subst e
  refine yb_ne 11 9 C dX9_second_6 (by decide) rfl (fun c6 => ?_) (fun c6 => ?_)
  · obtain ⟨k, hk, rfl⟩ := m_in_3 (k := 4) (by decide) c6
    have e1 : ix (nI k) = k := ix_nI (by omega)
    refine yr_iconst 12 C (0) dX9_second_11 rfl rfl ?_
    refine yr_istore2 13 C dX9_second_12 (by decide) rfl ?_
    refine yr_iconst 14 C (0) dX9_second_13 rfl rfl ?_
    refine yr_istore3 15 C dX9_second_14 (by decide) rfl ?_
    have loop15 : ∀ (j i : Nat) (b : Bool) (X : yS) (no t : Nat), i + j = k → mI X np ns nd no nr t → t + j < 2 ^ 20 → m_secL j i b X = m_secL k 0 false S → ∀ h : yH, yMR dA ad m0 (X) h → yW p l e (yR 5 0 0) s m args below meth c 4 D A 0 0 (yF D A (fun r h' => r = some (.int (sp_second S (nI k)).1) ∧ yMR dA ad m0 ((sp_second S (nI k)).2) h') below args s 0 0) 15 [some (.ref m0), some (.int (nI k)), some (.int (nI i)), some (.int (bI b))] [] h := by
      intro j
      induction j with
      | zero =>
        intro i b X no t hij hX htj he h hR
        refine yr_iload_n 16 C dX9_second_15 rfl rfl ?_
        refine yr_iload_n 17 C dX9_second_16 rfl rfl ?_
        refine yr_icmp_ge 35 20 C dX9_second_17 (by decide) rfl (fun c17 => ?_) (fun c17 => ?_)
        rotate_left
        · exact absurd (nI_le (by omega) (by omega)) c17
        refine yr_iload_n 36 C dX9_second_35 rfl rfl ?_
        refine yr_iret C dX9_second_36 hr (Nat.le_of_ble_eq_true rfl) (Nat.le_of_ble_eq_true rfl) ?_
        exact ⟨by simp [sp_second, c6, e1, ← he, m_secL], by simpa [sp_second, c6, e1, ← he, m_secL] using hR⟩
      | succ j ih =>
        intro i b X no t hij hX htj he h hR
        refine yr_iload_n 16 C dX9_second_15 rfl rfl ?_
        refine yr_iload_n 17 C dX9_second_16 rfl rfl ?_
        refine yr_icmp_ge 35 20 C dX9_second_17 (by decide) rfl (fun c17 => ?_) (fun c17 => ?_)
        · exact absurd c17 (nI_ge (by omega) (by omega))
        refine yr_iload_n 21 C dX9_second_20 rfl rfl ?_
        refine yb_ne 35 24 C dX9_second_21 (by decide) rfl (fun c21 => ?_) (fun c21 => ?_)
        · refine yr_iload_n 36 C dX9_second_35 rfl rfl ?_
          refine yr_iret C dX9_second_36 hr (Nat.le_of_ble_eq_true rfl) (Nat.le_of_ble_eq_true rfl) ?_
          exact ⟨by simp [sp_second, c6, e1, ← he, m_secL, c21], by simpa [sp_second, c6, e1, ← he, m_secL, c21] using hR⟩
        · refine yr_aload_n 25 C dX9_second_24 rfl rfl rfl ?_
          refine yr_V0v 28 C (mc_pass hZ hX (by omega) _ hR) dX9_second_25 mt_X9_pass mv_X9_pass ml_X9_255 hR.1 rfl (Nat.le_of_ble_eq_true rfl) (Nat.le_of_ble_eq_true rfl) (Nat.le_of_ble_eq_true rfl) (Nat.le_of_ble_eq_true rfl) (Nat.le_of_ble_eq_true rfl) rfl (fun h hR => ?_)
          obtain ⟨no2, hX2⟩ := hP X no t hX (by omega)
          have e9 := m_passS_eq hX (by omega)
          refine yr_istore3 29 C dX9_second_28 (by decide) rfl ?_
          refine yr_iinc2 32 C (1) dX9_second_29 rfl (by decide) rfl ?_
          rw [nI_1]
          refine yr_goto 15 C dX9_second_32 (by decide) ?_
          exact ih (i + 1) _ _ no2 (t + 1) (by omega) hX2 (by omega) (by rw [← he]; simp [m_secL, c21, e9]) h hR
    exact loop15 k 0 false S no t (by omega) hI (by omega) rfl h hR
  · refine yr_iconst 10 C (-1) dX9_second_9 rfl rfl ?_
    refine yr_iret C dX9_second_10 hr (Nat.le_of_ble_eq_true rfl) (Nat.le_of_ble_eq_true rfl) ?_
    exact ⟨by simp [sp_second, c6], by simpa [sp_second, c6] using hR⟩
set_option maxHeartbeats 4000000 in
set_option maxRecDepth 100000 in
theorem mc_conflict (hZ : yZok D dA Z) (u v a b : Int32) (hI : mI S np ns nd no nr t) (ht : t < 2 ^ 20) (h : yH) (hR : yMR dA ad m0 (S) h) : yM Z D yX9_conflict cX9_conflict 6 (some .int) 2 0 0 [.ref m0, .int u, .int v, .int a, .int b] h (fun r h' => r = some (.int (sp_conflict S u v a b).1) ∧ yMR dA ad m0 ((sp_conflict S u v a b).2) h') := by
  refine yM_of hZ (by decide) rfl (Nat.le_of_ble_eq_true rfl) ?_
  intro p l e s m args below meth c A C hr hin
  show yW p l e (yR 2 0 0) s m args below meth c 6 D A 0 0 _ 0 [some (.ref m0), some (.int u), some (.int v), some (.int a), some (.int b), none] [] h
  have hB := mB_of_mI hI ht
  have h0 : S 1 0 = nI np ∧ np ≤ 8 := hI 0
  have h1 : S 17 0 = nI ns ∧ ns ≤ 6 := hI 1
  have h5 : S 0 0 = nI t := hI 5
  have ep : ix (S 1 0) = np := by rw [h0.1]; exact ix_nI (by omega)
  have es : ix (S 17 0) = ns := by rw [h1.1]; exact ix_nI (by omega)
  have et : ix (S 0 0) = t := by rw [h5]; exact ix_nI (by omega)
  refine yr_aload_n 1 C dX9_conflict_0 rfl rfl rfl ?_
  refine yr_iload_n 2 C dX9_conflict_1 rfl rfl ?_
  refine yr_V1v 5 C (mc_isPhase hZ _ _ hR) dX9_conflict_2 mt_X9_isPhase mv_X9_isPhase ml_X9_136 hR.1 rfl (Nat.le_of_ble_eq_true rfl) (Nat.le_of_ble_eq_true rfl) (Nat.le_of_ble_eq_true rfl) (Nat.le_of_ble_eq_true rfl) (Nat.le_of_ble_eq_true rfl) rfl (fun h hR => ?_)
  refine yb_eq 42 8 C dX9_conflict_5 (by decide) rfl (fun c5 => ?_) (fun c5 => ?_)
  · refine yr_iconst 43 C (-1) dX9_conflict_42 rfl rfl ?_
    refine yr_iret C dX9_conflict_43 hr (Nat.le_of_ble_eq_true rfl) (Nat.le_of_ble_eq_true rfl) ?_
    refine ⟨?_, ?_⟩
    · simp [sp_conflict, c5]
    · simpa [sp_conflict, c5] using hR
  · refine yr_aload_n 9 C dX9_conflict_8 rfl rfl rfl ?_
    refine yr_iload_n 10 C dX9_conflict_9 rfl rfl ?_
    refine yr_V1v 13 C (mc_isPhase hZ _ _ hR) dX9_conflict_10 mt_X9_isPhase mv_X9_isPhase ml_X9_136 hR.1 rfl (Nat.le_of_ble_eq_true rfl) (Nat.le_of_ble_eq_true rfl) (Nat.le_of_ble_eq_true rfl) (Nat.le_of_ble_eq_true rfl) (Nat.le_of_ble_eq_true rfl) rfl (fun h hR => ?_)
    refine yb_eq 42 16 C dX9_conflict_13 (by decide) rfl (fun c13 => ?_) (fun c13 => ?_)
    · refine yr_iconst 43 C (-1) dX9_conflict_42 rfl rfl ?_
      refine yr_iret C dX9_conflict_43 hr (Nat.le_of_ble_eq_true rfl) (Nat.le_of_ble_eq_true rfl) ?_
      refine ⟨?_, ?_⟩
      · simp [sp_conflict, c5, c13]
      · simpa [sp_conflict, c5, c13] using hR
    · refine yr_iload_n 17 C dX9_conflict_16 rfl rfl ?_
      refine yr_iload_n 18 C dX9_conflict_17 rfl rfl ?_
      refine yr_icmp_eq 42 21 C dX9_conflict_18 (by decide) rfl (fun c18 => ?_) (fun c18 => ?_)
      · refine yr_iconst 43 C (-1) dX9_conflict_42 rfl rfl ?_
        refine yr_iret C dX9_conflict_43 hr (Nat.le_of_ble_eq_true rfl) (Nat.le_of_ble_eq_true rfl) ?_
        refine ⟨?_, ?_⟩
        · simp [sp_conflict, c5, c13, c18]
        · simpa [sp_conflict, c5, c13, c18] using hR
      · refine yr_iload_n 22 C dX9_conflict_21 rfl rfl ?_
        refine yr_iconst 23 C (0) dX9_conflict_22 rfl rfl ?_
        refine yr_bipush 25 C (20) dX9_conflict_23 rfl rfl ?_
        refine yr_S3v 28 C (mc_in hZ _ _ _ _) dX9_conflict_25 mt_X9_in ms_X9_in ml_X9_123 (Nat.le_of_ble_eq_true rfl) (Nat.le_of_ble_eq_true rfl) (Nat.le_of_ble_eq_true rfl) (Nat.le_of_ble_eq_true rfl) (Nat.le_of_ble_eq_true rfl) rfl (fun h e => ?_)
        subst e
        refine yb_eq 42 31 C dX9_conflict_28 (by decide) rfl (fun c28 => ?_) (fun c28 => ?_)
        · refine yr_iconst 43 C (-1) dX9_conflict_42 rfl rfl ?_
          refine yr_iret C dX9_conflict_43 hr (Nat.le_of_ble_eq_true rfl) (Nat.le_of_ble_eq_true rfl) ?_
          refine ⟨?_, ?_⟩
          · simp [sp_conflict, c5, c13, c18, c28]
          · simpa [sp_conflict, c5, c13, c18, c28] using hR
        · refine yr_iload 33 C dX9_conflict_31 rfl rfl ?_
          refine yr_iconst 34 C (0) dX9_conflict_33 rfl rfl ?_
          refine yr_bipush 36 C (20) dX9_conflict_34 rfl rfl ?_
          refine yr_S3v 39 C (mc_in hZ _ _ _ _) dX9_conflict_36 mt_X9_in ms_X9_in ml_X9_123 (Nat.le_of_ble_eq_true rfl) (Nat.le_of_ble_eq_true rfl) (Nat.le_of_ble_eq_true rfl) (Nat.le_of_ble_eq_true rfl) (Nat.le_of_ble_eq_true rfl) rfl (fun h e => ?_)
          subst e
          refine yb_ne 44 42 C dX9_conflict_39 (by decide) rfl (fun c39 => ?_) (fun c39 => ?_)
          · refine yr_aload_n 45 C dX9_conflict_44 rfl rfl rfl ?_
            refine ym_get 48 C hR dX9_conflict_45 fl_X9_133 (by decide) rfl rfl ?_
            refine yr_if_le 54 51 C dX9_conflict_48 (by decide) rfl (fun c48 => ?_) (fun c48 => ?_)
            · obtain ⟨j0, hj, rfl⟩ := m_isP_ix hI c5
              have e0 : ix (nI j0) = j0 := ix_nI (by omega)
              obtain ⟨k, hk, rfl⟩ := m_isP_ix hI c13
              have e1 : ix (nI k) = k := ix_nI (by omega)
              refine yr_iconst 55 C (0) dX9_conflict_54 rfl rfl ?_
              refine yr_istore5 57 C dX9_conflict_55 (by decide) rfl ?_
              have loop57 : ∀ (j i : Nat) , i + j = ns → m_cfL S (nI j0) (nI k) j i = m_cfL S (nI j0) (nI k) ns 0 → ∀ h : yH, yMR dA ad m0 (S) h → yW p l e (yR 2 0 0) s m args below meth c 6 D A 0 0 (yF D A (fun r h' => r = some (.int (sp_conflict S (nI j0) (nI k) a b).1) ∧ yMR dA ad m0 ((sp_conflict S (nI j0) (nI k) a b).2) h') below args s 0 0) 57 [some (.ref m0), some (.int (nI j0)), some (.int (nI k)), some (.int a), some (.int b), some (.int (nI i))] [] h := by
                intro j
                induction j with
                | zero =>
                  intro i  hij he h hR
                  refine yr_iload 59 C dX9_conflict_57 rfl rfl ?_
                  refine yr_aload_n 60 C dX9_conflict_59 rfl rfl rfl ?_
                  refine ym_get 63 C hR dX9_conflict_60 fl_X9_127 (by decide) rfl rfl ?_
                  rw [h1.1]
                  refine yr_icmp_ge 95 66 C dX9_conflict_63 (by decide) rfl (fun c63 => ?_) (fun c63 => ?_)
                  rotate_left
                  · exact absurd (nI_le (by omega) (by omega)) c63
                  refine yr_aload_n 96 C dX9_conflict_95 rfl rfl rfl ?_
                  refine ym_getA 99 C hR dX9_conflict_96 fl_X9_53 (by decide) rfl rfl ?_
                  refine yr_bipush 101 C (8) dX9_conflict_99 rfl rfl ?_
                  refine yr_iload_n 102 C dX9_conflict_101 rfl rfl ?_
                  refine yr_imul 103 C dX9_conflict_102 rfl ?_
                  refine yr_iload_n 104 C dX9_conflict_103 rfl rfl ?_
                  refine yr_iadd 105 C dX9_conflict_104 rfl ?_
                  rw [show (8 : Int32) * nI j0 + nI k = nI (8 * j0 + k) from ixm]
                  refine yr_iload_n 106 C dX9_conflict_105 rfl rfl ?_
                  refine yr_iconst 107 C (1) dX9_conflict_106 rfl rfl ?_
                  refine yr_iadd 108 C dX9_conflict_107 rfl ?_
                  refine ym_astN 109 C hR dX9_conflict_108 (by decide) rfl rfl ?_ rfl (fun h hR => ?_)
                  · simp only [mL]; omega
                  refine yr_aload_n 110 C dX9_conflict_109 rfl rfl rfl ?_
                  refine ym_getA 113 C hR dX9_conflict_110 fl_X9_53 (by decide) rfl rfl ?_
                  refine yr_bipush 115 C (8) dX9_conflict_113 rfl rfl ?_
                  refine yr_iload_n 116 C dX9_conflict_115 rfl rfl ?_
                  refine yr_imul 117 C dX9_conflict_116 rfl ?_
                  refine yr_iload_n 118 C dX9_conflict_117 rfl rfl ?_
                  refine yr_iadd 119 C dX9_conflict_118 rfl ?_
                  rw [show (8 : Int32) * nI k + nI j0 = nI (8 * k + j0) from ixm]
                  refine yr_iload 121 C dX9_conflict_119 rfl rfl ?_
                  refine yr_iconst 122 C (1) dX9_conflict_121 rfl rfl ?_
                  refine yr_iadd 123 C dX9_conflict_122 rfl ?_
                  refine ym_astN 124 C hR dX9_conflict_123 (by decide) rfl rfl ?_ rfl (fun h hR => ?_)
                  · simp only [mL]; omega
                  refine yr_iconst 125 C (1) dX9_conflict_124 rfl rfl ?_
                  refine yr_iret C dX9_conflict_125 hr (Nat.le_of_ble_eq_true rfl) (Nat.le_of_ble_eq_true rfl) ?_
                  have e6 : m_cfL S (nI j0) (nI k) ns 0 = false := he.symm
                  exact ⟨by simp [sp_conflict, es, e6, c5, c13, c18, c28, c39, c48], by simpa [sp_conflict, es, e0, e1, e6, c5, c13, c18, c28, c39, c48] using hR⟩
                | succ j ih =>
                  intro i  hij he h hR
                  refine yr_iload 59 C dX9_conflict_57 rfl rfl ?_
                  refine yr_aload_n 60 C dX9_conflict_59 rfl rfl rfl ?_
                  refine ym_get 63 C hR dX9_conflict_60 fl_X9_127 (by decide) rfl rfl ?_
                  rw [h1.1]
                  refine yr_icmp_ge 95 66 C dX9_conflict_63 (by decide) rfl (fun c63 => ?_) (fun c63 => ?_)
                  · exact absurd c63 (nI_ge (by omega) (by omega))
                  refine yr_aload_n 67 C dX9_conflict_66 rfl rfl rfl ?_
                  refine yr_iload 69 C dX9_conflict_67 rfl rfl ?_
                  refine yr_iload_n 70 C dX9_conflict_69 rfl rfl ?_
                  refine yr_V2v 73 C (mc_has hZ _ (by omega) _ _ hR) dX9_conflict_70 mt_X9_has mv_X9_has ml_X9_140 hR.1 rfl (Nat.le_of_ble_eq_true rfl) (Nat.le_of_ble_eq_true rfl) (Nat.le_of_ble_eq_true rfl) (Nat.le_of_ble_eq_true rfl) (Nat.le_of_ble_eq_true rfl) rfl (fun h hR => ?_)
                  refine yb_eq 89 76 C dX9_conflict_73 (by decide) rfl (fun c73 => ?_) (fun c73 => ?_)
                  · refine yr_iinc5 92 C (1) dX9_conflict_89 rfl (by decide) rfl ?_
                    rw [nI_1]
                    refine yr_goto 57 C dX9_conflict_92 (by decide) ?_
                    exact ih (i + 1) (by omega) (by rw [← he]; simp [m_cfL, c5, c13, c18, c28, c39, c48, c73]) h hR
                  · refine yr_aload_n 77 C dX9_conflict_76 rfl rfl rfl ?_
                    refine yr_iload 79 C dX9_conflict_77 rfl rfl ?_
                    refine yr_iload_n 80 C dX9_conflict_79 rfl rfl ?_
                    refine yr_V2v 83 C (mc_has hZ _ (by omega) _ _ hR) dX9_conflict_80 mt_X9_has mv_X9_has ml_X9_140 hR.1 rfl (Nat.le_of_ble_eq_true rfl) (Nat.le_of_ble_eq_true rfl) (Nat.le_of_ble_eq_true rfl) (Nat.le_of_ble_eq_true rfl) (Nat.le_of_ble_eq_true rfl) rfl (fun h hR => ?_)
                    refine yb_eq 89 86 C dX9_conflict_83 (by decide) rfl (fun c83 => ?_) (fun c83 => ?_)
                    · refine yr_iinc5 92 C (1) dX9_conflict_89 rfl (by decide) rfl ?_
                      rw [nI_1]
                      refine yr_goto 57 C dX9_conflict_92 (by decide) ?_
                      exact ih (i + 1) (by omega) (by rw [← he]; simp [m_cfL, c5, c13, c18, c28, c39, c48, c73, c83]) h hR
                    · refine yr_bipush 88 C (-4) dX9_conflict_86 rfl rfl ?_
                      refine yr_iret C dX9_conflict_88 hr (Nat.le_of_ble_eq_true rfl) (Nat.le_of_ble_eq_true rfl) ?_
                      have e6 : m_cfL S (nI j0) (nI k) ns 0 = true := by rw [← he]; simp [m_cfL, c73, c83]
                      exact ⟨by simp [sp_conflict, es, e6, c5, c13, c18, c28, c39, c48], by simpa [sp_conflict, es, e6, c5, c13, c18, c28, c39, c48] using hR⟩
              exact loop57 ns 0 (by omega) rfl h hR
            · refine yr_bipush 53 C (-3) dX9_conflict_51 rfl rfl ?_
              refine yr_iret C dX9_conflict_53 hr (Nat.le_of_ble_eq_true rfl) (Nat.le_of_ble_eq_true rfl) ?_
              refine ⟨?_, ?_⟩
              · simp [sp_conflict, c5, c13, c18, c28, c39, c48]
              · simpa [sp_conflict, c5, c13, c18, c28, c39, c48] using hR
          · refine yr_iconst 43 C (-1) dX9_conflict_42 rfl rfl ?_
            refine yr_iret C dX9_conflict_43 hr (Nat.le_of_ble_eq_true rfl) (Nat.le_of_ble_eq_true rfl) ?_
            refine ⟨?_, ?_⟩
            · simp [sp_conflict, c5, c13, c18, c28, c39]
            · simpa [sp_conflict, c5, c13, c18, c28, c39] using hR
end M11
