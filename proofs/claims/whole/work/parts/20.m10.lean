def m_passS (S : yS) : Bool × yS := m_pass S (ix (S 1 0)) (ix (S 17 0)) (ix (S 23 0)) (ix (S 29 0)) (ix (S 0 0))
def m_secL : Nat → Nat → Bool → yS → Int32 × yS
  | 0, d, _, S => (nI d, S)
  | j + 1, d, met, S => if met then (nI d, S) else m_secL j (d + 1) (m_passS S).1 (m_passS S).2
def sp_second (S : yS) (n : Int32) : Int32 × yS := if m_in n 0 4 then m_secL (ix n) 0 false S else (-1, S)
def sp_restore (S : yS) : Int32 × yS := if S 44 0 = 0 then (-3, S) else (1, m_allL 0 (ix (S 1 0)) 0 (mset S 44 0 0))
def sp_was (S : yS) (p n : Int32) : Int32 × yS := (if m_isP S p && m_in n 0 60 then (if n < S 0 0 then S 51 (8 * ((ix (S 0 0) - 1 - ix n) % 61) + ix p) else -5) else -1, S)
def sp_stageOf (S : yS) (q : Int32) : Int32 × yS := (if q = 0 then S 34 0 else if q = 1 then m_next S (ix (S 17 0)) else if q = 2 then S 39 0 else if q = 3 then (if 0 ≤ S 34 0 then S 0 0 - S 35 0 else -5) else -1, S)
def sp_place (S : yS) (s k : Int32) : Int32 × yS := if m_isS S s && m_in k 0 3 then (S 18 (4 * ix s + ix k), if 0 ≤ S 18 (4 * ix s + ix k) then S else m_found S 4 (-5)) else (-1, S)
def sp_told (S : yS) (p q : Int32) : Int32 × yS := (if m_isP S p && m_in q 0 11 then (if q = 0 then S 2 (ix p) else if q = 1 then S 4 (ix p) else if q = 2 then S 5 (ix p) else if q = 3 then S 5 (ix p) else if q = 4 then S 6 (ix p) else if q = 5 then S 7 (ix p) else if q = 6 then S 8 (ix p) else if q = 7 then S 9 (ix p) else if q = 8 then S 10 (ix p) else if q = 9 then S 11 (ix p) else if q = 10 then S 12 (ix p) else S 13 (ix p)) else -1, S)
def sp_count (S : yS) (q : Int32) : Int32 × yS := (if q = 0 then S 0 0 else if q = 1 then S 46 1 else if q = 2 then S 46 2 else if q = 3 then S 46 3 else if q = 4 then S 46 4 else if q = 5 then S 45 0 else if q = 6 then S 1 0 else if q = 7 then S 17 0 else if q = 8 then S 19 0 else if q = 9 then S 23 0 else if q = 10 then S 29 0 else if q = 11 then S 49 0 else -1, S)
def sp_fault (S : yS) (q : Int32) : Int32 × yS := (if q = 0 then S 41 0 else if q = 1 then S 42 0 else if q = 2 then S 43 0 else if q = 3 then S 44 0 else -1, S)
def m_bdI (S : yS) (p : Nat) : Nat → Nat → Int32 → Int32
  | 0, _, x => x
  | j + 1, i, x => m_bdI S p j (i + 1) (if S 16 (8 * p + i) - 1 ≤ x then x else S 16 (8 * p + i) - 1)
def m_bdO (S : yS) (np : Nat) : Nat → Nat → Int32 → Int32 → Int32 × Int32
  | 0, _, a, c => (a, c)
  | j + 1, i, a, c => m_bdO S np j (i + 1) (if S 13 i ≤ a then a else S 13 i) (m_bdI S i np 0 c)
def m_bdS (S : yS) (a c : Int32) : Nat → Nat → Int32 → Int32
  | 0, _, x => x
  | j + 1, i, x => m_bdS S a c j (i + 1) (x + (m_great S i + a + c))
def sp_bound (S : yS) : Int32 × yS := (m_bdS S (m_bdO S (ix (S 1 0)) (ix (S 1 0)) 0 0 0).1 (m_bdO S (ix (S 1 0)) (ix (S 1 0)) 0 0 0).2 (ix (S 17 0)) 0 0, S)
theorem m_in_3 {n : Int32} {k : Nat} (hk : k < 2 ^ 30) (h : m_in n 0 (nI k) = true) : ∃ j : Nat, j ≤ k ∧ n = nI j := by
  simp only [m_in, Bool.and_eq_true, Bool.not_eq_true', decide_eq_false_iff_not] at h
  obtain ⟨h1, h2⟩ := h
  obtain ⟨j, hj, rfl⟩ := nI_of h1
  refine ⟨j, ?_, rfl⟩
  rw [Int32.not_lt] at h2
  exact (nI_leI (by omega) (by omega)).mp h2
section M10
variable {Z : (Nat → Prop) → State → Prop} {D : va_G} {dA : Nat → ClassId} {ad : Nat → Nat} {m0 : Nat} {S : yS} {np ns nd no nr t : Nat}
set_option maxHeartbeats 4000000 in
set_option maxRecDepth 100000 in
theorem mc_restore (hZ : yZok D dA Z)  (hI : mI S np ns nd no nr t) (ht : t < 2 ^ 20) (h : yH) (hR : yMR dA ad m0 (S) h) : yM Z D yX9_restore cX9_restore 2 (some .int) 3 0 0 [.ref m0] h (fun r h' => r = some (.int (sp_restore S).1) ∧ yMR dA ad m0 ((sp_restore S).2) h') := by
  refine yM_of hZ (by decide) rfl (Nat.le_of_ble_eq_true rfl) ?_
  intro p l e s m args below meth c A C hr hin
  show yW p l e (yR 3 0 0) s m args below meth c 2 D A 0 0 _ 0 [some (.ref m0), none] [] h
  have hB := mB_of_mI hI ht
  have h0 : S 1 0 = nI np ∧ np ≤ 8 := hI 0
  have h1 : S 17 0 = nI ns ∧ ns ≤ 6 := hI 1
  have h5 : S 0 0 = nI t := hI 5
  have ep : ix (S 1 0) = np := by rw [h0.1]; exact ix_nI (by omega)
  have es : ix (S 17 0) = ns := by rw [h1.1]; exact ix_nI (by omega)
  have et : ix (S 0 0) = t := by rw [h5]; exact ix_nI (by omega)
  refine yr_aload_n 1 C dX9_restore_0 rfl rfl rfl ?_
  refine ym_get 4 C hR dX9_restore_1 fl_X9_159 (by decide) rfl rfl ?_
  refine yr_if_ne 10 7 C dX9_restore_4 (by decide) rfl (fun c4 => ?_) (fun c4 => ?_)
  · refine yr_aload_n 11 C dX9_restore_10 rfl rfl rfl ?_
    refine yr_iconst 12 C (0) dX9_restore_11 rfl rfl ?_
    refine ym_put 15 C hR dX9_restore_12 fp_X9_159 (by decide) rfl rfl (fun h hR => ?_)
    refine yr_iconst 16 C (0) dX9_restore_15 rfl rfl ?_
    refine yr_istore1 17 C dX9_restore_16 (by decide) rfl ?_
    have loop17 : ∀ (j i : Nat) (X : yS), i + j = np → mB X np ns nd nr t → m_allL 0 j i X = m_allL 0 np 0 (mset S 44 0 0) → ∀ h : yH, yMR dA ad m0 (X) h → yW p l e (yR 3 0 0) s m args below meth c 2 D A 0 0 (yF D A (fun r h' => r = some (.int (sp_restore S).1) ∧ yMR dA ad m0 ((sp_restore S).2) h') below args s 0 0) 17 [some (.ref m0), some (.int (nI i))] [] h := by
      intro j
      induction j with
      | zero =>
        intro i X hij hX he h hR
        have x0 : X 1 0 = nI np ∧ np ≤ 8 := hX 0
        have x3 : X 0 0 = nI t ∧ t < 2 ^ 20 ∧ nd ≤ 12 := hX 3
        have x2 : X 29 0 = nI nr ∧ nr ≤ 6 := hX 2
        refine yr_iload_n 18 C dX9_restore_17 rfl rfl ?_
        refine yr_aload_n 19 C dX9_restore_18 rfl rfl rfl ?_
        refine ym_get 22 C hR dX9_restore_19 fl_X9_120 (by decide) rfl rfl ?_
        rw [x0.1]
        refine yr_icmp_ge 37 25 C dX9_restore_22 (by decide) rfl (fun c22 => ?_) (fun c22 => ?_)
        rotate_left
        · exact absurd (nI_le (by omega) (by omega)) c22
        refine yr_iconst 38 C (1) dX9_restore_37 rfl rfl ?_
        refine yr_iret C dX9_restore_38 hr (Nat.le_of_ble_eq_true rfl) (Nat.le_of_ble_eq_true rfl) ?_
        have he2 : X = m_allL 0 np 0 (mset S 44 0 0) := he
        rw [he2] at hR
        exact ⟨by simp [sp_restore, c4], by simpa [sp_restore, c4, ep] using hR⟩
      | succ j ih =>
        intro i X hij hX he h hR
        have x0 : X 1 0 = nI np ∧ np ≤ 8 := hX 0
        have x3 : X 0 0 = nI t ∧ t < 2 ^ 20 ∧ nd ≤ 12 := hX 3
        have x2 : X 29 0 = nI nr ∧ nr ≤ 6 := hX 2
        refine yr_iload_n 18 C dX9_restore_17 rfl rfl ?_
        refine yr_aload_n 19 C dX9_restore_18 rfl rfl rfl ?_
        refine ym_get 22 C hR dX9_restore_19 fl_X9_120 (by decide) rfl rfl ?_
        rw [x0.1]
        refine yr_icmp_ge 37 25 C dX9_restore_22 (by decide) rfl (fun c22 => ?_) (fun c22 => ?_)
        · exact absurd c22 (nI_ge (by omega) (by omega))
        refine yr_aload_n 26 C dX9_restore_25 rfl rfl rfl ?_
        refine yr_iload_n 27 C dX9_restore_26 rfl rfl ?_
        refine yr_iconst 28 C (0) dX9_restore_27 rfl rfl ?_
        refine yr_V2u 31 C (mc_change hZ _ (by omega) _ hX _ hR) dX9_restore_28 mt_X9_change mv_X9_change ml_X9_213 hR.1 rfl (Nat.le_of_ble_eq_true rfl) (Nat.le_of_ble_eq_true rfl) (Nat.le_of_ble_eq_true rfl) (Nat.le_of_ble_eq_true rfl) (Nat.le_of_ble_eq_true rfl) rfl (fun h hR => ?_)
        refine yr_iinc1 34 C (1) dX9_restore_31 rfl (by decide) rfl ?_
        rw [nI_1]
        refine yr_goto 17 C dX9_restore_34 (by decide) ?_
        exact ih (i + 1) _ (by omega) (mB_fr hX (m_change_fr X i 0)) he h hR
    exact loop17 np 0 _ (by omega) (mB_fr hB (mFr_set S 0 0 (show mFk 44 = true from rfl))) rfl h hR
  · refine yr_bipush 9 C (-3) dX9_restore_7 rfl rfl ?_
    refine yr_iret C dX9_restore_9 hr (Nat.le_of_ble_eq_true rfl) (Nat.le_of_ble_eq_true rfl) ?_
    exact ⟨by simp [sp_restore, c4], by simpa [sp_restore, c4] using hR⟩
set_option maxHeartbeats 4000000 in
set_option maxRecDepth 100000 in
theorem mc_was (hZ : yZok D dA Z) (q n : Int32) (hI : mI S np ns nd no nr t) (ht : t < 2 ^ 20) (h : yH) (hR : yMR dA ad m0 (S) h) : yM Z D yX9_was cX9_was 3 (some .int) 2 0 0 [.ref m0, .int q, .int n] h (fun r h' => r = some (.int (sp_was S q n).1) ∧ yMR dA ad m0 ((sp_was S q n).2) h') := by
  refine yM_of hZ (by decide) rfl (Nat.le_of_ble_eq_true rfl) ?_
  intro p l e s m args below meth c A C hr hin
  show yW p l e (yR 2 0 0) s m args below meth c 3 D A 0 0 _ 0 [some (.ref m0), some (.int q), some (.int n)] [] h
  have hB := mB_of_mI hI ht
  have h0 : S 1 0 = nI np ∧ np ≤ 8 := hI 0
  have h1 : S 17 0 = nI ns ∧ ns ≤ 6 := hI 1
  have h5 : S 0 0 = nI t := hI 5
  have ep : ix (S 1 0) = np := by rw [h0.1]; exact ix_nI (by omega)
  have es : ix (S 17 0) = ns := by rw [h1.1]; exact ix_nI (by omega)
  have et : ix (S 0 0) = t := by rw [h5]; exact ix_nI (by omega)
  refine yr_aload_n 1 C dX9_was_0 rfl rfl rfl ?_
  refine yr_iload_n 2 C dX9_was_1 rfl rfl ?_
  refine yr_V1v 5 C (mc_isPhase hZ _ _ hR) dX9_was_2 mt_X9_isPhase mv_X9_isPhase ml_X9_136 hR.1 rfl (Nat.le_of_ble_eq_true rfl) (Nat.le_of_ble_eq_true rfl) (Nat.le_of_ble_eq_true rfl) (Nat.le_of_ble_eq_true rfl) (Nat.le_of_ble_eq_true rfl) rfl (fun h hR => ?_)
  refine yb_eq 18 8 C dX9_was_5 (by decide) rfl (fun c5 => ?_) (fun c5 => ?_)
  · refine yr_iconst 19 C (-1) dX9_was_18 rfl rfl ?_
    refine yr_iret C dX9_was_19 hr (Nat.le_of_ble_eq_true rfl) (Nat.le_of_ble_eq_true rfl) ?_
    refine ⟨?_, hR⟩
    first | (simp [sp_was, c5]; done) | simp [sp_was, et, e0, e1, c5]
  · refine yr_iload_n 9 C dX9_was_8 rfl rfl ?_
    refine yr_iconst 10 C (0) dX9_was_9 rfl rfl ?_
    refine yr_bipush 12 C (60) dX9_was_10 rfl rfl ?_
    refine yr_S3v 15 C (mc_in hZ _ _ _ _) dX9_was_12 mt_X9_in ms_X9_in ml_X9_123 (Nat.le_of_ble_eq_true rfl) (Nat.le_of_ble_eq_true rfl) (Nat.le_of_ble_eq_true rfl) (Nat.le_of_ble_eq_true rfl) (Nat.le_of_ble_eq_true rfl) rfl (fun h e => ?_)
    subst e
    refine yb_ne 20 18 C dX9_was_15 (by decide) rfl (fun c15 => ?_) (fun c15 => ?_)
    · obtain ⟨j, hj, rfl⟩ := m_isP_ix hI c5
      have e0 : ix (nI j) = j := ix_nI (by omega)
      obtain ⟨k, hk, rfl⟩ := m_in_3 (k := 60) (by decide) c15
      have e1 : ix (nI k) = k := ix_nI (by omega)
      refine yr_iload_n 21 C dX9_was_20 rfl rfl ?_
      refine yr_aload_n 22 C dX9_was_21 rfl rfl rfl ?_
      refine ym_get 25 C hR dX9_was_22 fl_X9_133 (by decide) rfl rfl ?_
      refine yr_icmp_lt 33 28 C dX9_was_25 (by decide) rfl (fun c25 => ?_) (fun c25 => ?_)
      · have hkt : k < t := by rw [h5] at c25; exact (nI_ltI (by omega) (by omega)).mp c25
        refine yr_aload_n 34 C dX9_was_33 rfl rfl rfl ?_
        refine ym_getA 37 C hR dX9_was_34 fl_X9_114 (by decide) rfl rfl ?_
        refine yr_bipush 39 C (8) dX9_was_37 rfl rfl ?_
        refine yr_aload_n 40 C dX9_was_39 rfl rfl rfl ?_
        refine ym_get 43 C hR dX9_was_40 fl_X9_133 (by decide) rfl rfl ?_
        rw [h5]
        refine yr_iconst 44 C (1) dX9_was_43 rfl rfl ?_
        refine yr_isub 45 C dX9_was_44 rfl ?_
        refine yr_iload_n 46 C dX9_was_45 rfl rfl ?_
        refine yr_isub 47 C dX9_was_46 rfl ?_
        rw [show nI t - 1 - nI k = nI (t - 1 - k) from by rw [show (1 : Int32) = nI 1 from rfl, pk_sub (by omega), pk_sub (by omega)]]
        refine yr_bipush 49 C (61) dX9_was_47 rfl rfl ?_
        refine yr_irem 50 C dX9_was_49 ?_ rfl ?_
        · decide
        rw [show nI (t - 1 - k) - nI (t - 1 - k) / 61 * 61 = nI ((t - 1 - k) % 61) from pk_rem (d := 61) (by omega) (by decide) (by decide)]
        have hmod : (t - 1 - k) % 61 < 61 := Nat.mod_lt _ (by decide)
        refine yr_imul 51 C dX9_was_50 rfl ?_
        refine yr_iload_n 52 C dX9_was_51 rfl rfl ?_
        refine yr_iadd 53 C dX9_was_52 rfl ?_
        rw [show (8 : Int32) * nI ((t - 1 - k) % 61) + nI j = nI (8 * ((t - 1 - k) % 61) + j) from ixm]
        refine ym_aldN 54 C hR dX9_was_53 (by decide) rfl rfl ?_ rfl ?_
        · simp only [mL]; omega
        refine yr_iret C dX9_was_54 hr (Nat.le_of_ble_eq_true rfl) (Nat.le_of_ble_eq_true rfl) ?_
        refine ⟨?_, hR⟩
        first | (simp [sp_was, c5, c15, c25]; done) | simp [sp_was, et, e0, e1, c5, c15, c25]
      · refine yr_bipush 30 C (-5) dX9_was_28 rfl rfl ?_
        refine yr_goto 54 C dX9_was_30 (by decide) ?_
        refine yr_iret C dX9_was_54 hr (Nat.le_of_ble_eq_true rfl) (Nat.le_of_ble_eq_true rfl) ?_
        refine ⟨?_, hR⟩
        first | (simp [sp_was, c5, c15, c25]; done) | simp [sp_was, et, e0, e1, c5, c15, c25]
    · refine yr_iconst 19 C (-1) dX9_was_18 rfl rfl ?_
      refine yr_iret C dX9_was_19 hr (Nat.le_of_ble_eq_true rfl) (Nat.le_of_ble_eq_true rfl) ?_
      refine ⟨?_, hR⟩
      first | (simp [sp_was, c5, c15]; done) | simp [sp_was, et, e0, e1, c5, c15]
set_option maxHeartbeats 4000000 in
set_option maxRecDepth 100000 in
theorem mc_stageOf (hZ : yZok D dA Z) (q : Int32) (hI : mI S np ns nd no nr t) (ht : t < 2 ^ 20) (h : yH) (hR : yMR dA ad m0 (S) h) : yM Z D yX9_stageOf cX9_stageOf 2 (some .int) 2 0 0 [.ref m0, .int q] h (fun r h' => r = some (.int (sp_stageOf S q).1) ∧ yMR dA ad m0 ((sp_stageOf S q).2) h') := by
  refine yM_of hZ (by decide) rfl (Nat.le_of_ble_eq_true rfl) ?_
  intro p l e s m args below meth c A C hr hin
  show yW p l e (yR 2 0 0) s m args below meth c 2 D A 0 0 _ 0 [some (.ref m0), some (.int q)] [] h
  have hB := mB_of_mI hI ht
  have h0 : S 1 0 = nI np ∧ np ≤ 8 := hI 0
  have h1 : S 17 0 = nI ns ∧ ns ≤ 6 := hI 1
  have h5 : S 0 0 = nI t := hI 5
  have ep : ix (S 1 0) = np := by rw [h0.1]; exact ix_nI (by omega)
  have es : ix (S 17 0) = ns := by rw [h1.1]; exact ix_nI (by omega)
  have et : ix (S 0 0) = t := by rw [h5]; exact ix_nI (by omega)
  refine yr_iload_n 1 C dX9_stageOf_0 rfl rfl ?_
  by_cases z1_0 : q = 0
  · rw [z1_0]
    refine yr_tabIn (off := 31) 32 C dX9_stageOf_1 (by decide) (by decide) rfl (by decide) ?_
    refine yr_aload_n 33 C dX9_stageOf_32 rfl rfl rfl ?_
    refine ym_get 36 C hR dX9_stageOf_33 fl_X9_95 (by decide) rfl rfl ?_
    refine yr_iret C dX9_stageOf_36 hr (Nat.le_of_ble_eq_true rfl) (Nat.le_of_ble_eq_true rfl) ?_
    refine ⟨?_, hR⟩
    simp [sp_stageOf, es, z1_0]
  by_cases z1_1 : q = 1
  · rw [z1_1]
    refine yr_tabIn (off := 36) 37 C dX9_stageOf_1 (by decide) (by decide) rfl (by decide) ?_
    refine yr_aload_n 38 C dX9_stageOf_37 rfl rfl rfl ?_
    refine yr_V0v 41 C (mc_next hZ hB (hI 14) _ hR) dX9_stageOf_38 mt_X9_next mv_X9_next ml_X9_229 hR.1 rfl (Nat.le_of_ble_eq_true rfl) (Nat.le_of_ble_eq_true rfl) (Nat.le_of_ble_eq_true rfl) (Nat.le_of_ble_eq_true rfl) (Nat.le_of_ble_eq_true rfl) rfl (fun h hR => ?_)
    refine yr_iret C dX9_stageOf_41 hr (Nat.le_of_ble_eq_true rfl) (Nat.le_of_ble_eq_true rfl) ?_
    refine ⟨?_, hR⟩
    simp [sp_stageOf, es, z1_0, z1_1]
  by_cases z1_2 : q = 2
  · rw [z1_2]
    refine yr_tabIn (off := 41) 42 C dX9_stageOf_1 (by decide) (by decide) rfl (by decide) ?_
    refine yr_aload_n 43 C dX9_stageOf_42 rfl rfl rfl ?_
    refine ym_get 46 C hR dX9_stageOf_43 fl_X9_102 (by decide) rfl rfl ?_
    refine yr_iret C dX9_stageOf_46 hr (Nat.le_of_ble_eq_true rfl) (Nat.le_of_ble_eq_true rfl) ?_
    refine ⟨?_, hR⟩
    simp [sp_stageOf, es, z1_0, z1_1, z1_2]
  by_cases z1_3 : q = 3
  · rw [z1_3]
    refine yr_tabIn (off := 46) 47 C dX9_stageOf_1 (by decide) (by decide) rfl (by decide) ?_
    refine yr_aload_n 48 C dX9_stageOf_47 rfl rfl rfl ?_
    refine ym_get 51 C hR dX9_stageOf_48 fl_X9_95 (by decide) rfl rfl ?_
    refine yr_if_ge 59 54 C dX9_stageOf_51 (by decide) rfl (fun c51 => ?_) (fun c51 => ?_)
    · refine yr_aload_n 60 C dX9_stageOf_59 rfl rfl rfl ?_
      refine ym_get 63 C hR dX9_stageOf_60 fl_X9_133 (by decide) rfl rfl ?_
      refine yr_aload_n 64 C dX9_stageOf_63 rfl rfl rfl ?_
      refine ym_get 67 C hR dX9_stageOf_64 fl_X9_189 (by decide) rfl rfl ?_
      refine yr_isub 68 C dX9_stageOf_67 rfl ?_
      refine yr_iret C dX9_stageOf_68 hr (Nat.le_of_ble_eq_true rfl) (Nat.le_of_ble_eq_true rfl) ?_
      refine ⟨?_, hR⟩
      simp [sp_stageOf, es, z1_0, z1_1, z1_2, z1_3, c51]
    · refine yr_bipush 56 C (-5) dX9_stageOf_54 rfl rfl ?_
      refine yr_goto 68 C dX9_stageOf_56 (by decide) ?_
      refine yr_iret C dX9_stageOf_68 hr (Nat.le_of_ble_eq_true rfl) (Nat.le_of_ble_eq_true rfl) ?_
      refine ⟨?_, hR⟩
      simp [sp_stageOf, es, z1_0, z1_1, z1_2, z1_3, c51]
  refine yr_tabOut 69 C dX9_stageOf_1 (sw_out 3 (by decide) (fun i hi => match i, hi with | 0, _ => z1_0 | 1, _ => z1_1 | 2, _ => z1_2 | 3, _ => z1_3 | (n + 4), q => absurd q (by omega))) (by decide) ?_
  refine yr_iconst 70 C (-1) dX9_stageOf_69 rfl rfl ?_
  refine yr_iret C dX9_stageOf_70 hr (Nat.le_of_ble_eq_true rfl) (Nat.le_of_ble_eq_true rfl) ?_
  refine ⟨?_, hR⟩
  simp [sp_stageOf, es, z1_0, z1_1, z1_2, z1_3]
set_option maxHeartbeats 4000000 in
set_option maxRecDepth 100000 in
theorem mc_place (hZ : yZok D dA Z) (q n : Int32) (hI : mI S np ns nd no nr t) (ht : t < 2 ^ 20) (h : yH) (hR : yMR dA ad m0 (S) h) : yM Z D yX9_place cX9_place 3 (some .int) 2 0 0 [.ref m0, .int q, .int n] h (fun r h' => r = some (.int (sp_place S q n).1) ∧ yMR dA ad m0 ((sp_place S q n).2) h') := by
  refine yM_of hZ (by decide) rfl (Nat.le_of_ble_eq_true rfl) ?_
  intro p l e s m args below meth c A C hr hin
  show yW p l e (yR 2 0 0) s m args below meth c 3 D A 0 0 _ 0 [some (.ref m0), some (.int q), some (.int n)] [] h
  have hB := mB_of_mI hI ht
  have h0 : S 1 0 = nI np ∧ np ≤ 8 := hI 0
  have h1 : S 17 0 = nI ns ∧ ns ≤ 6 := hI 1
  have h5 : S 0 0 = nI t := hI 5
  have ep : ix (S 1 0) = np := by rw [h0.1]; exact ix_nI (by omega)
  have es : ix (S 17 0) = ns := by rw [h1.1]; exact ix_nI (by omega)
  have et : ix (S 0 0) = t := by rw [h5]; exact ix_nI (by omega)
  refine yr_aload_n 1 C dX9_place_0 rfl rfl rfl ?_
  refine yr_iload_n 2 C dX9_place_1 rfl rfl ?_
  refine yr_V1v 5 C (mc_isStage hZ _ _ hR) dX9_place_2 mt_X9_isStage mv_X9_isStage ml_X9_156 hR.1 rfl (Nat.le_of_ble_eq_true rfl) (Nat.le_of_ble_eq_true rfl) (Nat.le_of_ble_eq_true rfl) (Nat.le_of_ble_eq_true rfl) (Nat.le_of_ble_eq_true rfl) rfl (fun h hR => ?_)
  refine yb_eq 17 8 C dX9_place_5 (by decide) rfl (fun c5 => ?_) (fun c5 => ?_)
  · refine yr_iconst 18 C (-1) dX9_place_17 rfl rfl ?_
    refine yr_iret C dX9_place_18 hr (Nat.le_of_ble_eq_true rfl) (Nat.le_of_ble_eq_true rfl) ?_
    refine ⟨?_, ?_⟩
    · simp [sp_place, c5]
    · simpa [sp_place, c5] using hR
  · refine yr_iload_n 9 C dX9_place_8 rfl rfl ?_
    refine yr_iconst 10 C (0) dX9_place_9 rfl rfl ?_
    refine yr_iconst 11 C (3) dX9_place_10 rfl rfl ?_
    refine yr_S3v 14 C (mc_in hZ _ _ _ _) dX9_place_11 mt_X9_in ms_X9_in ml_X9_123 (Nat.le_of_ble_eq_true rfl) (Nat.le_of_ble_eq_true rfl) (Nat.le_of_ble_eq_true rfl) (Nat.le_of_ble_eq_true rfl) (Nat.le_of_ble_eq_true rfl) rfl (fun h e => ?_)
    subst e
    refine yb_ne 19 17 C dX9_place_14 (by decide) rfl (fun c14 => ?_) (fun c14 => ?_)
    · obtain ⟨j, hj, rfl⟩ := m_isS_ix hI c5
      have e0 : ix (nI j) = j := ix_nI (by omega)
      obtain ⟨k, hk, rfl⟩ := m_in_3 (k := 3) (by decide) c14
      have e1 : ix (nI k) = k := ix_nI (by omega)
      refine yr_aload_n 20 C dX9_place_19 rfl rfl rfl ?_
      refine ym_getA 23 C hR dX9_place_20 fl_X9_56 (by decide) rfl rfl ?_
      refine yr_iconst 24 C (4) dX9_place_23 rfl rfl ?_
      refine yr_iload_n 25 C dX9_place_24 rfl rfl ?_
      refine yr_imul 26 C dX9_place_25 rfl ?_
      refine yr_iload_n 27 C dX9_place_26 rfl rfl ?_
      refine yr_iadd 28 C dX9_place_27 rfl ?_
      rw [show (4 : Int32) * nI j + nI k = nI (4 * j + k) from ixm]
      refine ym_aldN 29 C hR dX9_place_28 (by decide) rfl rfl ?_ rfl ?_
      · simp only [mL]; omega
      refine yr_if_ge 39 32 C dX9_place_29 (by decide) rfl (fun c29 => ?_) (fun c29 => ?_)
      · refine yr_aload_n 40 C dX9_place_39 rfl rfl rfl ?_
        refine ym_getA 43 C hR dX9_place_40 fl_X9_56 (by decide) rfl rfl ?_
        refine yr_iconst 44 C (4) dX9_place_43 rfl rfl ?_
        refine yr_iload_n 45 C dX9_place_44 rfl rfl ?_
        refine yr_imul 46 C dX9_place_45 rfl ?_
        refine yr_iload_n 47 C dX9_place_46 rfl rfl ?_
        refine yr_iadd 48 C dX9_place_47 rfl ?_
        rw [show (4 : Int32) * nI j + nI k = nI (4 * j + k) from ixm]
        refine ym_aldN 49 C hR dX9_place_48 (by decide) rfl rfl ?_ rfl ?_
        · simp only [mL]; omega
        refine yr_iret C dX9_place_49 hr (Nat.le_of_ble_eq_true rfl) (Nat.le_of_ble_eq_true rfl) ?_
        refine ⟨?_, ?_⟩
        · simp [sp_place, e0, e1, c5, c14, c29]
        · simpa [sp_place, e0, e1, c5, c14, c29] using hR
      · refine yr_aload_n 33 C dX9_place_32 rfl rfl rfl ?_
        refine yr_iconst 34 C (4) dX9_place_33 rfl rfl ?_
        refine yr_bipush 36 C (-5) dX9_place_34 rfl rfl ?_
        refine yr_V2u 39 C (mc_found hZ 4 (by decide) _ _ hR) dX9_place_36 mt_X9_found mv_X9_found ml_X9_169 hR.1 rfl (Nat.le_of_ble_eq_true rfl) (Nat.le_of_ble_eq_true rfl) (Nat.le_of_ble_eq_true rfl) (Nat.le_of_ble_eq_true rfl) (Nat.le_of_ble_eq_true rfl) rfl (fun h hR => ?_)
        refine yr_aload_n 40 C dX9_place_39 rfl rfl rfl ?_
        refine ym_getA 43 C hR dX9_place_40 fl_X9_56 (by decide) rfl rfl ?_
        refine yr_iconst 44 C (4) dX9_place_43 rfl rfl ?_
        refine yr_iload_n 45 C dX9_place_44 rfl rfl ?_
        refine yr_imul 46 C dX9_place_45 rfl ?_
        refine yr_iload_n 47 C dX9_place_46 rfl rfl ?_
        refine yr_iadd 48 C dX9_place_47 rfl ?_
        rw [show (4 : Int32) * nI j + nI k = nI (4 * j + k) from ixm]
        refine ym_aldN 49 C hR dX9_place_48 (by decide) rfl rfl ?_ rfl ?_
        · simp only [mL]; omega
        refine yr_iret C dX9_place_49 hr (Nat.le_of_ble_eq_true rfl) (Nat.le_of_ble_eq_true rfl) ?_
        refine ⟨?_, ?_⟩
        · rw [m_found_rw S 4 (-5) 18 (by decide)]
          simp [sp_place, e0, e1, c5, c14, c29]
        · simpa [sp_place, e0, e1, c5, c14, c29] using hR
    · refine yr_iconst 18 C (-1) dX9_place_17 rfl rfl ?_
      refine yr_iret C dX9_place_18 hr (Nat.le_of_ble_eq_true rfl) (Nat.le_of_ble_eq_true rfl) ?_
      refine ⟨?_, ?_⟩
      · simp [sp_place, c5, c14]
      · simpa [sp_place, c5, c14] using hR
set_option maxHeartbeats 4000000 in
set_option maxRecDepth 100000 in
theorem mc_told (hZ : yZok D dA Z) (q n : Int32) (hI : mI S np ns nd no nr t) (ht : t < 2 ^ 20) (h : yH) (hR : yMR dA ad m0 (S) h) : yM Z D yX9_told cX9_told 3 (some .int) 2 0 0 [.ref m0, .int q, .int n] h (fun r h' => r = some (.int (sp_told S q n).1) ∧ yMR dA ad m0 ((sp_told S q n).2) h') := by
  refine yM_of hZ (by decide) rfl (Nat.le_of_ble_eq_true rfl) ?_
  intro p l e s m args below meth c A C hr hin
  show yW p l e (yR 2 0 0) s m args below meth c 3 D A 0 0 _ 0 [some (.ref m0), some (.int q), some (.int n)] [] h
  have hB := mB_of_mI hI ht
  have h0 : S 1 0 = nI np ∧ np ≤ 8 := hI 0
  have h1 : S 17 0 = nI ns ∧ ns ≤ 6 := hI 1
  have h5 : S 0 0 = nI t := hI 5
  have ep : ix (S 1 0) = np := by rw [h0.1]; exact ix_nI (by omega)
  have es : ix (S 17 0) = ns := by rw [h1.1]; exact ix_nI (by omega)
  have et : ix (S 0 0) = t := by rw [h5]; exact ix_nI (by omega)
  refine yr_aload_n 1 C dX9_told_0 rfl rfl rfl ?_
  refine yr_iload_n 2 C dX9_told_1 rfl rfl ?_
  refine yr_V1v 5 C (mc_isPhase hZ _ _ hR) dX9_told_2 mt_X9_isPhase mv_X9_isPhase ml_X9_136 hR.1 rfl (Nat.le_of_ble_eq_true rfl) (Nat.le_of_ble_eq_true rfl) (Nat.le_of_ble_eq_true rfl) (Nat.le_of_ble_eq_true rfl) (Nat.le_of_ble_eq_true rfl) rfl (fun h hR => ?_)
  refine yb_eq 18 8 C dX9_told_5 (by decide) rfl (fun c5 => ?_) (fun c5 => ?_)
  · refine yr_iconst 19 C (-1) dX9_told_18 rfl rfl ?_
    refine yr_iret C dX9_told_19 hr (Nat.le_of_ble_eq_true rfl) (Nat.le_of_ble_eq_true rfl) ?_
    refine ⟨?_, hR⟩
    first | (simp [sp_told, c5]; done) | simp [sp_told, e0, c5]
  · refine yr_iload_n 9 C dX9_told_8 rfl rfl ?_
    refine yr_iconst 10 C (0) dX9_told_9 rfl rfl ?_
    refine yr_bipush 12 C (11) dX9_told_10 rfl rfl ?_
    refine yr_S3v 15 C (mc_in hZ _ _ _ _) dX9_told_12 mt_X9_in ms_X9_in ml_X9_123 (Nat.le_of_ble_eq_true rfl) (Nat.le_of_ble_eq_true rfl) (Nat.le_of_ble_eq_true rfl) (Nat.le_of_ble_eq_true rfl) (Nat.le_of_ble_eq_true rfl) rfl (fun h e => ?_)
    subst e
    refine yb_ne 20 18 C dX9_told_15 (by decide) rfl (fun c15 => ?_) (fun c15 => ?_)
    · obtain ⟨j, hj, rfl⟩ := m_isP_ix hI c5
      have e0 : ix (nI j) = j := ix_nI (by omega)
      refine yr_iload_n 21 C dX9_told_20 rfl rfl ?_
      by_cases z21_0 : n = 0
      · rw [z21_0]
        refine yr_tabIn (off := 59) 80 C dX9_told_21 (by decide) (by decide) rfl (by decide) ?_
        refine yr_aload_n 81 C dX9_told_80 rfl rfl rfl ?_
        refine ym_getA 84 C hR dX9_told_81 fl_X9_7 (by decide) rfl rfl ?_
        refine yr_iload_n 85 C dX9_told_84 rfl rfl ?_
        refine ym_aldN 86 C hR dX9_told_85 (by decide) rfl rfl ?_ rfl ?_
        · simp only [mL]; omega
        refine yr_iret C dX9_told_86 hr (Nat.le_of_ble_eq_true rfl) (Nat.le_of_ble_eq_true rfl) ?_
        subst z21_0
        refine ⟨?_, hR⟩
        simp [sp_told, e0, c5, c15]
      by_cases z21_1 : n = 1
      · rw [z21_1]
        refine yr_tabIn (off := 66) 87 C dX9_told_21 (by decide) (by decide) rfl (by decide) ?_
        refine yr_aload_n 88 C dX9_told_87 rfl rfl rfl ?_
        refine ym_getA 91 C hR dX9_told_88 fl_X9_16 (by decide) rfl rfl ?_
        refine yr_iload_n 92 C dX9_told_91 rfl rfl ?_
        refine ym_aldN 93 C hR dX9_told_92 (by decide) rfl rfl ?_ rfl ?_
        · simp only [mL]; omega
        refine yr_iret C dX9_told_93 hr (Nat.le_of_ble_eq_true rfl) (Nat.le_of_ble_eq_true rfl) ?_
        subst z21_1
        refine ⟨?_, hR⟩
        simp [sp_told, e0, c5, c15]
      by_cases z21_2 : n = 2
      · rw [z21_2]
        refine yr_tabIn (off := 73) 94 C dX9_told_21 (by decide) (by decide) rfl (by decide) ?_
        refine yr_aload_n 95 C dX9_told_94 rfl rfl rfl ?_
        refine ym_getA 98 C hR dX9_told_95 fl_X9_19 (by decide) rfl rfl ?_
        refine yr_iload_n 99 C dX9_told_98 rfl rfl ?_
        refine ym_aldN 100 C hR dX9_told_99 (by decide) rfl rfl ?_ rfl ?_
        · simp only [mL]; omega
        refine yr_iret C dX9_told_100 hr (Nat.le_of_ble_eq_true rfl) (Nat.le_of_ble_eq_true rfl) ?_
        subst z21_2
        refine ⟨?_, hR⟩
        simp [sp_told, e0, c5, c15]
      by_cases z21_3 : n = 3
      · rw [z21_3]
        refine yr_tabIn (off := 73) 94 C dX9_told_21 (by decide) (by decide) rfl (by decide) ?_
        refine yr_aload_n 95 C dX9_told_94 rfl rfl rfl ?_
        refine ym_getA 98 C hR dX9_told_95 fl_X9_19 (by decide) rfl rfl ?_
        refine yr_iload_n 99 C dX9_told_98 rfl rfl ?_
        refine ym_aldN 100 C hR dX9_told_99 (by decide) rfl rfl ?_ rfl ?_
        · simp only [mL]; omega
        refine yr_iret C dX9_told_100 hr (Nat.le_of_ble_eq_true rfl) (Nat.le_of_ble_eq_true rfl) ?_
        subst z21_3
        refine ⟨?_, hR⟩
        simp [sp_told, e0, c5, c15]
      by_cases z21_4 : n = 4
      · rw [z21_4]
        refine yr_tabIn (off := 80) 101 C dX9_told_21 (by decide) (by decide) rfl (by decide) ?_
        refine yr_aload_n 102 C dX9_told_101 rfl rfl rfl ?_
        refine ym_getA 105 C hR dX9_told_102 fl_X9_22 (by decide) rfl rfl ?_
        refine yr_iload_n 106 C dX9_told_105 rfl rfl ?_
        refine ym_aldN 107 C hR dX9_told_106 (by decide) rfl rfl ?_ rfl ?_
        · simp only [mL]; omega
        refine yr_iret C dX9_told_107 hr (Nat.le_of_ble_eq_true rfl) (Nat.le_of_ble_eq_true rfl) ?_
        subst z21_4
        refine ⟨?_, hR⟩
        simp [sp_told, e0, c5, c15]
      by_cases z21_5 : n = 5
      · rw [z21_5]
        refine yr_tabIn (off := 87) 108 C dX9_told_21 (by decide) (by decide) rfl (by decide) ?_
        refine yr_aload_n 109 C dX9_told_108 rfl rfl rfl ?_
        refine ym_getA 112 C hR dX9_told_109 fl_X9_25 (by decide) rfl rfl ?_
        refine yr_iload_n 113 C dX9_told_112 rfl rfl ?_
        refine ym_aldN 114 C hR dX9_told_113 (by decide) rfl rfl ?_ rfl ?_
        · simp only [mL]; omega
        refine yr_iret C dX9_told_114 hr (Nat.le_of_ble_eq_true rfl) (Nat.le_of_ble_eq_true rfl) ?_
        subst z21_5
        refine ⟨?_, hR⟩
        simp [sp_told, e0, c5, c15]
      by_cases z21_6 : n = 6
      · rw [z21_6]
        refine yr_tabIn (off := 94) 115 C dX9_told_21 (by decide) (by decide) rfl (by decide) ?_
        refine yr_aload_n 116 C dX9_told_115 rfl rfl rfl ?_
        refine ym_getA 119 C hR dX9_told_116 fl_X9_28 (by decide) rfl rfl ?_
        refine yr_iload_n 120 C dX9_told_119 rfl rfl ?_
        refine ym_aldN 121 C hR dX9_told_120 (by decide) rfl rfl ?_ rfl ?_
        · simp only [mL]; omega
        refine yr_iret C dX9_told_121 hr (Nat.le_of_ble_eq_true rfl) (Nat.le_of_ble_eq_true rfl) ?_
        subst z21_6
        refine ⟨?_, hR⟩
        simp [sp_told, e0, c5, c15]
      by_cases z21_7 : n = 7
      · rw [z21_7]
        refine yr_tabIn (off := 101) 122 C dX9_told_21 (by decide) (by decide) rfl (by decide) ?_
        refine yr_aload_n 123 C dX9_told_122 rfl rfl rfl ?_
        refine ym_getA 126 C hR dX9_told_123 fl_X9_31 (by decide) rfl rfl ?_
        refine yr_iload_n 127 C dX9_told_126 rfl rfl ?_
        refine ym_aldN 128 C hR dX9_told_127 (by decide) rfl rfl ?_ rfl ?_
        · simp only [mL]; omega
        refine yr_iret C dX9_told_128 hr (Nat.le_of_ble_eq_true rfl) (Nat.le_of_ble_eq_true rfl) ?_
        subst z21_7
        refine ⟨?_, hR⟩
        simp [sp_told, e0, c5, c15]
      by_cases z21_8 : n = 8
      · rw [z21_8]
        refine yr_tabIn (off := 108) 129 C dX9_told_21 (by decide) (by decide) rfl (by decide) ?_
        refine yr_aload_n 130 C dX9_told_129 rfl rfl rfl ?_
        refine ym_getA 133 C hR dX9_told_130 fl_X9_34 (by decide) rfl rfl ?_
        refine yr_iload_n 134 C dX9_told_133 rfl rfl ?_
        refine ym_aldN 135 C hR dX9_told_134 (by decide) rfl rfl ?_ rfl ?_
        · simp only [mL]; omega
        refine yr_iret C dX9_told_135 hr (Nat.le_of_ble_eq_true rfl) (Nat.le_of_ble_eq_true rfl) ?_
        subst z21_8
        refine ⟨?_, hR⟩
        simp [sp_told, e0, c5, c15]
      by_cases z21_9 : n = 9
      · rw [z21_9]
        refine yr_tabIn (off := 115) 136 C dX9_told_21 (by decide) (by decide) rfl (by decide) ?_
        refine yr_aload_n 137 C dX9_told_136 rfl rfl rfl ?_
        refine ym_getA 140 C hR dX9_told_137 fl_X9_37 (by decide) rfl rfl ?_
        refine yr_iload_n 141 C dX9_told_140 rfl rfl ?_
        refine ym_aldN 142 C hR dX9_told_141 (by decide) rfl rfl ?_ rfl ?_
        · simp only [mL]; omega
        refine yr_iret C dX9_told_142 hr (Nat.le_of_ble_eq_true rfl) (Nat.le_of_ble_eq_true rfl) ?_
        subst z21_9
        refine ⟨?_, hR⟩
        simp [sp_told, e0, c5, c15]
      by_cases z21_10 : n = 10
      · rw [z21_10]
        refine yr_tabIn (off := 122) 143 C dX9_told_21 (by decide) (by decide) rfl (by decide) ?_
        refine yr_aload_n 144 C dX9_told_143 rfl rfl rfl ?_
        refine ym_getA 147 C hR dX9_told_144 fl_X9_40 (by decide) rfl rfl ?_
        refine yr_iload_n 148 C dX9_told_147 rfl rfl ?_
        refine ym_aldN 149 C hR dX9_told_148 (by decide) rfl rfl ?_ rfl ?_
        · simp only [mL]; omega
        refine yr_iret C dX9_told_149 hr (Nat.le_of_ble_eq_true rfl) (Nat.le_of_ble_eq_true rfl) ?_
        subst z21_10
        refine ⟨?_, hR⟩
        simp [sp_told, e0, c5, c15]
      refine yr_tabOut 150 C dX9_told_21 (sw_out 10 (by decide) (fun i hi => match i, hi with | 0, _ => z21_0 | 1, _ => z21_1 | 2, _ => z21_2 | 3, _ => z21_3 | 4, _ => z21_4 | 5, _ => z21_5 | 6, _ => z21_6 | 7, _ => z21_7 | 8, _ => z21_8 | 9, _ => z21_9 | 10, _ => z21_10 | (n + 11), q => absurd q (by omega))) (by decide) ?_
      refine yr_aload_n 151 C dX9_told_150 rfl rfl rfl ?_
      refine ym_getA 154 C hR dX9_told_151 fl_X9_43 (by decide) rfl rfl ?_
      refine yr_iload_n 155 C dX9_told_154 rfl rfl ?_
      refine ym_aldN 156 C hR dX9_told_155 (by decide) rfl rfl ?_ rfl ?_
      · simp only [mL]; omega
      refine yr_iret C dX9_told_156 hr (Nat.le_of_ble_eq_true rfl) (Nat.le_of_ble_eq_true rfl) ?_
      refine ⟨?_, hR⟩
      first | (simp [sp_told, c5, c15, z21_0, z21_1, z21_2, z21_3, z21_4, z21_5, z21_6, z21_7, z21_8, z21_9, z21_10]; done) | simp [sp_told, e0, c5, c15, z21_0, z21_1, z21_2, z21_3, z21_4, z21_5, z21_6, z21_7, z21_8, z21_9, z21_10]
    · refine yr_iconst 19 C (-1) dX9_told_18 rfl rfl ?_
      refine yr_iret C dX9_told_19 hr (Nat.le_of_ble_eq_true rfl) (Nat.le_of_ble_eq_true rfl) ?_
      refine ⟨?_, hR⟩
      first | (simp [sp_told, c5, c15]; done) | simp [sp_told, e0, c5, c15]
set_option maxHeartbeats 4000000 in
set_option maxRecDepth 100000 in
theorem mc_count (hZ : yZok D dA Z) (q : Int32) (hI : mI S np ns nd no nr t) (ht : t < 2 ^ 20) (h : yH) (hR : yMR dA ad m0 (S) h) : yM Z D yX9_count cX9_count 2 (some .int) 0 0 0 [.ref m0, .int q] h (fun r h' => r = some (.int (sp_count S q).1) ∧ yMR dA ad m0 ((sp_count S q).2) h') := by
  refine yM_of hZ (by decide) rfl (Nat.le_of_ble_eq_true rfl) ?_
  intro p l e s m args below meth c A C hr hin
  show yW p l e (yR 0 0 0) s m args below meth c 2 D A 0 0 _ 0 [some (.ref m0), some (.int q)] [] h
  refine yr_iload_n 1 C dX9_count_0 rfl rfl ?_
  by_cases z1_0 : q = 0
  · rw [z1_0]
    refine yr_tabIn (off := 63) 64 C dX9_count_1 (by decide) (by decide) rfl (by decide) ?_
    refine yr_aload_n 65 C dX9_count_64 rfl rfl rfl ?_
    refine ym_get 68 C hR dX9_count_65 fl_X9_133 (by decide) rfl rfl ?_
    refine yr_iret C dX9_count_68 hr (Nat.le_of_ble_eq_true rfl) (Nat.le_of_ble_eq_true rfl) ?_
    refine ⟨?_, hR⟩
    simp [sp_count, z1_0]
  by_cases z1_1 : q = 1
  · rw [z1_1]
    refine yr_tabIn (off := 68) 69 C dX9_count_1 (by decide) (by decide) rfl (by decide) ?_
    refine yr_aload_n 70 C dX9_count_69 rfl rfl rfl ?_
    refine ym_getA 73 C hR dX9_count_70 fl_X9_108 (by decide) rfl rfl ?_
    refine yr_iload_n 74 C dX9_count_73 rfl rfl ?_
    rw [show (1 : Int32) = nI 1 from rfl]
    refine ym_aldN 75 C hR dX9_count_74 (by decide) rfl rfl ?_ rfl ?_
    · decide
    refine yr_iret C dX9_count_75 hr (Nat.le_of_ble_eq_true rfl) (Nat.le_of_ble_eq_true rfl) ?_
    subst z1_1
    refine ⟨?_, hR⟩
    show some (Value.int (S 46 1)) = some (Value.int (sp_count S 1).1)
    simp [sp_count]
  by_cases z1_2 : q = 2
  · rw [z1_2]
    refine yr_tabIn (off := 68) 69 C dX9_count_1 (by decide) (by decide) rfl (by decide) ?_
    refine yr_aload_n 70 C dX9_count_69 rfl rfl rfl ?_
    refine ym_getA 73 C hR dX9_count_70 fl_X9_108 (by decide) rfl rfl ?_
    refine yr_iload_n 74 C dX9_count_73 rfl rfl ?_
    rw [show (2 : Int32) = nI 2 from rfl]
    refine ym_aldN 75 C hR dX9_count_74 (by decide) rfl rfl ?_ rfl ?_
    · decide
    refine yr_iret C dX9_count_75 hr (Nat.le_of_ble_eq_true rfl) (Nat.le_of_ble_eq_true rfl) ?_
    subst z1_2
    refine ⟨?_, hR⟩
    show some (Value.int (S 46 2)) = some (Value.int (sp_count S 2).1)
    simp [sp_count]
  by_cases z1_3 : q = 3
  · rw [z1_3]
    refine yr_tabIn (off := 68) 69 C dX9_count_1 (by decide) (by decide) rfl (by decide) ?_
    refine yr_aload_n 70 C dX9_count_69 rfl rfl rfl ?_
    refine ym_getA 73 C hR dX9_count_70 fl_X9_108 (by decide) rfl rfl ?_
    refine yr_iload_n 74 C dX9_count_73 rfl rfl ?_
    rw [show (3 : Int32) = nI 3 from rfl]
    refine ym_aldN 75 C hR dX9_count_74 (by decide) rfl rfl ?_ rfl ?_
    · decide
    refine yr_iret C dX9_count_75 hr (Nat.le_of_ble_eq_true rfl) (Nat.le_of_ble_eq_true rfl) ?_
    subst z1_3
    refine ⟨?_, hR⟩
    show some (Value.int (S 46 3)) = some (Value.int (sp_count S 3).1)
    simp [sp_count]
  by_cases z1_4 : q = 4
  · rw [z1_4]
    refine yr_tabIn (off := 68) 69 C dX9_count_1 (by decide) (by decide) rfl (by decide) ?_
    refine yr_aload_n 70 C dX9_count_69 rfl rfl rfl ?_
    refine ym_getA 73 C hR dX9_count_70 fl_X9_108 (by decide) rfl rfl ?_
    refine yr_iload_n 74 C dX9_count_73 rfl rfl ?_
    rw [show (4 : Int32) = nI 4 from rfl]
    refine ym_aldN 75 C hR dX9_count_74 (by decide) rfl rfl ?_ rfl ?_
    · decide
    refine yr_iret C dX9_count_75 hr (Nat.le_of_ble_eq_true rfl) (Nat.le_of_ble_eq_true rfl) ?_
    subst z1_4
    refine ⟨?_, hR⟩
    show some (Value.int (S 46 4)) = some (Value.int (sp_count S 4).1)
    simp [sp_count]
  by_cases z1_5 : q = 5
  · rw [z1_5]
    refine yr_tabIn (off := 75) 76 C dX9_count_1 (by decide) (by decide) rfl (by decide) ?_
    refine yr_aload_n 77 C dX9_count_76 rfl rfl rfl ?_
    refine ym_get 80 C hR dX9_count_77 fl_X9_204 (by decide) rfl rfl ?_
    refine yr_iret C dX9_count_80 hr (Nat.le_of_ble_eq_true rfl) (Nat.le_of_ble_eq_true rfl) ?_
    refine ⟨?_, hR⟩
    simp [sp_count, z1_0, z1_1, z1_2, z1_3, z1_4, z1_5]
  by_cases z1_6 : q = 6
  · rw [z1_6]
    refine yr_tabIn (off := 80) 81 C dX9_count_1 (by decide) (by decide) rfl (by decide) ?_
    refine yr_aload_n 82 C dX9_count_81 rfl rfl rfl ?_
    refine ym_get 85 C hR dX9_count_82 fl_X9_120 (by decide) rfl rfl ?_
    refine yr_iret C dX9_count_85 hr (Nat.le_of_ble_eq_true rfl) (Nat.le_of_ble_eq_true rfl) ?_
    refine ⟨?_, hR⟩
    simp [sp_count, z1_0, z1_1, z1_2, z1_3, z1_4, z1_5, z1_6]
  by_cases z1_7 : q = 7
  · rw [z1_7]
    refine yr_tabIn (off := 85) 86 C dX9_count_1 (by decide) (by decide) rfl (by decide) ?_
    refine yr_aload_n 87 C dX9_count_86 rfl rfl rfl ?_
    refine ym_get 90 C hR dX9_count_87 fl_X9_127 (by decide) rfl rfl ?_
    refine yr_iret C dX9_count_90 hr (Nat.le_of_ble_eq_true rfl) (Nat.le_of_ble_eq_true rfl) ?_
    refine ⟨?_, hR⟩
    simp [sp_count, z1_0, z1_1, z1_2, z1_3, z1_4, z1_5, z1_6, z1_7]
  by_cases z1_8 : q = 8
  · rw [z1_8]
    refine yr_tabIn (off := 90) 91 C dX9_count_1 (by decide) (by decide) rfl (by decide) ?_
    refine yr_aload_n 92 C dX9_count_91 rfl rfl rfl ?_
    refine ym_get 95 C hR dX9_count_92 fl_X9_130 (by decide) rfl rfl ?_
    refine yr_iret C dX9_count_95 hr (Nat.le_of_ble_eq_true rfl) (Nat.le_of_ble_eq_true rfl) ?_
    refine ⟨?_, hR⟩
    simp [sp_count, z1_0, z1_1, z1_2, z1_3, z1_4, z1_5, z1_6, z1_7, z1_8]
  by_cases z1_9 : q = 9
  · rw [z1_9]
    refine yr_tabIn (off := 95) 96 C dX9_count_1 (by decide) (by decide) rfl (by decide) ?_
    refine yr_aload_n 97 C dX9_count_96 rfl rfl rfl ?_
    refine ym_get 100 C hR dX9_count_97 fl_X9_150 (by decide) rfl rfl ?_
    refine yr_iret C dX9_count_100 hr (Nat.le_of_ble_eq_true rfl) (Nat.le_of_ble_eq_true rfl) ?_
    refine ⟨?_, hR⟩
    simp [sp_count, z1_0, z1_1, z1_2, z1_3, z1_4, z1_5, z1_6, z1_7, z1_8, z1_9]
  by_cases z1_10 : q = 10
  · rw [z1_10]
    refine yr_tabIn (off := 100) 101 C dX9_count_1 (by decide) (by decide) rfl (by decide) ?_
    refine yr_aload_n 102 C dX9_count_101 rfl rfl rfl ?_
    refine ym_get 105 C hR dX9_count_102 fl_X9_153 (by decide) rfl rfl ?_
    refine yr_iret C dX9_count_105 hr (Nat.le_of_ble_eq_true rfl) (Nat.le_of_ble_eq_true rfl) ?_
    refine ⟨?_, hR⟩
    simp [sp_count, z1_0, z1_1, z1_2, z1_3, z1_4, z1_5, z1_6, z1_7, z1_8, z1_9, z1_10]
  by_cases z1_11 : q = 11
  · rw [z1_11]
    refine yr_tabIn (off := 105) 106 C dX9_count_1 (by decide) (by decide) rfl (by decide) ?_
    refine yr_aload_n 107 C dX9_count_106 rfl rfl rfl ?_
    refine ym_get 110 C hR dX9_count_107 fl_X9_186 (by decide) rfl rfl ?_
    refine yr_iret C dX9_count_110 hr (Nat.le_of_ble_eq_true rfl) (Nat.le_of_ble_eq_true rfl) ?_
    refine ⟨?_, hR⟩
    simp [sp_count, z1_0, z1_1, z1_2, z1_3, z1_4, z1_5, z1_6, z1_7, z1_8, z1_9, z1_10, z1_11]
  refine yr_tabOut 111 C dX9_count_1 (sw_out 11 (by decide) (fun i hi => match i, hi with | 0, _ => z1_0 | 1, _ => z1_1 | 2, _ => z1_2 | 3, _ => z1_3 | 4, _ => z1_4 | 5, _ => z1_5 | 6, _ => z1_6 | 7, _ => z1_7 | 8, _ => z1_8 | 9, _ => z1_9 | 10, _ => z1_10 | 11, _ => z1_11 | (n + 12), q => absurd q (by omega))) (by decide) ?_
  refine yr_iconst 112 C (-1) dX9_count_111 rfl rfl ?_
  refine yr_iret C dX9_count_112 hr (Nat.le_of_ble_eq_true rfl) (Nat.le_of_ble_eq_true rfl) ?_
  refine ⟨?_, hR⟩
  simp [sp_count, z1_0, z1_1, z1_2, z1_3, z1_4, z1_5, z1_6, z1_7, z1_8, z1_9, z1_10, z1_11]
set_option maxHeartbeats 4000000 in
set_option maxRecDepth 100000 in
theorem mc_fault (hZ : yZok D dA Z) (q : Int32) (hI : mI S np ns nd no nr t) (ht : t < 2 ^ 20) (h : yH) (hR : yMR dA ad m0 (S) h) : yM Z D yX9_fault cX9_fault 2 (some .int) 0 0 0 [.ref m0, .int q] h (fun r h' => r = some (.int (sp_fault S q).1) ∧ yMR dA ad m0 ((sp_fault S q).2) h') := by
  refine yM_of hZ (by decide) rfl (Nat.le_of_ble_eq_true rfl) ?_
  intro p l e s m args below meth c A C hr hin
  show yW p l e (yR 0 0 0) s m args below meth c 2 D A 0 0 _ 0 [some (.ref m0), some (.int q)] [] h
  refine yr_iload_n 1 C dX9_fault_0 rfl rfl ?_
  by_cases z1_0 : q = 0
  · rw [z1_0]
    refine yr_tabIn (off := 31) 32 C dX9_fault_1 (by decide) (by decide) rfl (by decide) ?_
    refine yr_aload_n 33 C dX9_fault_32 rfl rfl rfl ?_
    refine ym_get 36 C hR dX9_fault_33 fl_X9_207 (by decide) rfl rfl ?_
    refine yr_iret C dX9_fault_36 hr (Nat.le_of_ble_eq_true rfl) (Nat.le_of_ble_eq_true rfl) ?_
    refine ⟨?_, hR⟩
    simp [sp_fault, z1_0]
  by_cases z1_1 : q = 1
  · rw [z1_1]
    refine yr_tabIn (off := 36) 37 C dX9_fault_1 (by decide) (by decide) rfl (by decide) ?_
    refine yr_aload_n 38 C dX9_fault_37 rfl rfl rfl ?_
    refine ym_get 41 C hR dX9_fault_38 fl_X9_105 (by decide) rfl rfl ?_
    refine yr_iret C dX9_fault_41 hr (Nat.le_of_ble_eq_true rfl) (Nat.le_of_ble_eq_true rfl) ?_
    refine ⟨?_, hR⟩
    simp [sp_fault, z1_0, z1_1]
  by_cases z1_2 : q = 2
  · rw [z1_2]
    refine yr_tabIn (off := 41) 42 C dX9_fault_1 (by decide) (by decide) rfl (by decide) ?_
    refine yr_aload_n 43 C dX9_fault_42 rfl rfl rfl ?_
    refine ym_get 46 C hR dX9_fault_43 fl_X9_210 (by decide) rfl rfl ?_
    refine yr_iret C dX9_fault_46 hr (Nat.le_of_ble_eq_true rfl) (Nat.le_of_ble_eq_true rfl) ?_
    refine ⟨?_, hR⟩
    simp [sp_fault, z1_0, z1_1, z1_2]
  by_cases z1_3 : q = 3
  · rw [z1_3]
    refine yr_tabIn (off := 46) 47 C dX9_fault_1 (by decide) (by decide) rfl (by decide) ?_
    refine yr_aload_n 48 C dX9_fault_47 rfl rfl rfl ?_
    refine ym_get 51 C hR dX9_fault_48 fl_X9_159 (by decide) rfl rfl ?_
    refine yr_iret C dX9_fault_51 hr (Nat.le_of_ble_eq_true rfl) (Nat.le_of_ble_eq_true rfl) ?_
    refine ⟨?_, hR⟩
    simp [sp_fault, z1_0, z1_1, z1_2, z1_3]
  refine yr_tabOut 52 C dX9_fault_1 (sw_out 3 (by decide) (fun i hi => match i, hi with | 0, _ => z1_0 | 1, _ => z1_1 | 2, _ => z1_2 | 3, _ => z1_3 | (n + 4), q => absurd q (by omega))) (by decide) ?_
  refine yr_iconst 53 C (-1) dX9_fault_52 rfl rfl ?_
  refine yr_iret C dX9_fault_53 hr (Nat.le_of_ble_eq_true rfl) (Nat.le_of_ble_eq_true rfl) ?_
  refine ⟨?_, hR⟩
  simp [sp_fault, z1_0, z1_1, z1_2, z1_3]
set_option maxHeartbeats 4000000 in
set_option maxRecDepth 100000 in
theorem mc_bound (hZ : yZok D dA Z)  (hI : mI S np ns nd no nr t) (ht : t < 2 ^ 20) (h : yH) (hR : yMR dA ad m0 (S) h) : yM Z D yX9_bound cX9_bound 6 (some .int) 2 0 0 [.ref m0] h (fun r h' => r = some (.int (sp_bound S).1) ∧ yMR dA ad m0 ((sp_bound S).2) h') := by
  refine yM_of hZ (by decide) rfl (Nat.le_of_ble_eq_true rfl) ?_
  intro p l e s m args below meth c A C hr hin
  show yW p l e (yR 2 0 0) s m args below meth c 6 D A 0 0 _ 0 [some (.ref m0), none, none, none, none, none] [] h
  have hB := mB_of_mI hI ht
  have h0 : S 1 0 = nI np ∧ np ≤ 8 := hI 0
  have h1 : S 17 0 = nI ns ∧ ns ≤ 6 := hI 1
  have h5 : S 0 0 = nI t := hI 5
  have ep : ix (S 1 0) = np := by rw [h0.1]; exact ix_nI (by omega)
  have es : ix (S 17 0) = ns := by rw [h1.1]; exact ix_nI (by omega)
  have et : ix (S 0 0) = t := by rw [h5]; exact ix_nI (by omega)
  refine yr_iconst 1 C (0) dX9_bound_0 rfl rfl ?_
  refine yr_istore1 2 C dX9_bound_1 (by decide) rfl ?_
  refine yr_iconst 3 C (0) dX9_bound_2 rfl rfl ?_
  refine yr_istore2 4 C dX9_bound_3 (by decide) rfl ?_
  refine yr_iconst 5 C (0) dX9_bound_4 rfl rfl ?_
  refine yr_istore3 6 C dX9_bound_5 (by decide) rfl ?_
  refine yr_iconst 7 C (0) dX9_bound_6 rfl rfl ?_
  refine yr_istore4 9 C dX9_bound_7 (by decide) rfl ?_
  have loop9 : ∀ (j i : Nat) (a c2 : Int32), i + j = np → m_bdO S np j i a c2 = m_bdO S np np 0 0 0 → ∀ h : yH, yMR dA ad m0 (S) h → yW p l e (yR 2 0 0) s m args below meth c 6 D A 0 0 (yF D A (fun r h' => r = some (.int (sp_bound S).1) ∧ yMR dA ad m0 ((sp_bound S).2) h') below args s 0 0) 9 [some (.ref m0), some (.int 0), some (.int a), some (.int c2), some (.int (nI i)), none] [] h := by
    intro j
    induction j with
    | zero =>
      intro i a c2 hij he h hR
      refine yr_iload 11 C dX9_bound_9 rfl rfl ?_
      refine yr_aload_n 12 C dX9_bound_11 rfl rfl rfl ?_
      refine ym_get 15 C hR dX9_bound_12 fl_X9_120 (by decide) rfl rfl ?_
      rw [h0.1]
      refine yr_icmp_ge 104 18 C dX9_bound_15 (by decide) rfl (fun c15 => ?_) (fun c15 => ?_)
      rotate_left
      · exact absurd (nI_le (by omega) (by omega)) c15
      refine yr_iconst 105 C (0) dX9_bound_104 rfl rfl ?_
      refine yr_istore4 107 C dX9_bound_105 (by decide) rfl ?_
      have loop107 : ∀ (j i : Nat) (x : Int32), i + j = ns → m_bdS S a c2 j i x = m_bdS S a c2 ns 0 0 → ∀ h : yH, yMR dA ad m0 (S) h → yW p l e (yR 2 0 0) s m args below meth c 6 D A 0 0 (yF D A (fun r h' => r = some (.int (sp_bound S).1) ∧ yMR dA ad m0 ((sp_bound S).2) h') below args s 0 0) 107 [some (.ref m0), some (.int x), some (.int a), some (.int c2), some (.int (nI i)), none] [] h := by
        intro j
        induction j with
        | zero =>
          intro i x hij hf h hR
          refine yr_iload 109 C dX9_bound_107 rfl rfl ?_
          refine yr_aload_n 110 C dX9_bound_109 rfl rfl rfl ?_
          refine ym_get 113 C hR dX9_bound_110 fl_X9_127 (by decide) rfl rfl ?_
          rw [h1.1]
          refine yr_icmp_ge 135 116 C dX9_bound_113 (by decide) rfl (fun c113 => ?_) (fun c113 => ?_)
          rotate_left
          · exact absurd (nI_le (by omega) (by omega)) c113
          refine yr_iload_n 136 C dX9_bound_135 rfl rfl ?_
          refine yr_iret C dX9_bound_136 hr (Nat.le_of_ble_eq_true rfl) (Nat.le_of_ble_eq_true rfl) ?_
          refine ⟨?_, hR⟩
          have he2 : (a, c2) = m_bdO S np np 0 0 0 := he
          have hf2 : x = m_bdS S a c2 ns 0 0 := hf
          simp [sp_bound, ep, es, ← he2, hf2]
        | succ j ih =>
          intro i x hij hf h hR
          refine yr_iload 109 C dX9_bound_107 rfl rfl ?_
          refine yr_aload_n 110 C dX9_bound_109 rfl rfl rfl ?_
          refine ym_get 113 C hR dX9_bound_110 fl_X9_127 (by decide) rfl rfl ?_
          rw [h1.1]
          refine yr_icmp_ge 135 116 C dX9_bound_113 (by decide) rfl (fun c113 => ?_) (fun c113 => ?_)
          · exact absurd c113 (nI_ge (by omega) (by omega))
          refine yr_iload_n 117 C dX9_bound_116 rfl rfl ?_
          refine yr_aload_n 118 C dX9_bound_117 rfl rfl rfl ?_
          refine yr_iload 120 C dX9_bound_118 rfl rfl ?_
          refine yr_V1v 123 C (mc_greatestOf hZ _ (by omega) hB _ hR) dX9_bound_120 mt_X9_greatestOf mv_X9_greatestOf ml_X9_233 hR.1 rfl (Nat.le_of_ble_eq_true rfl) (Nat.le_of_ble_eq_true rfl) (Nat.le_of_ble_eq_true rfl) (Nat.le_of_ble_eq_true rfl) (Nat.le_of_ble_eq_true rfl) rfl (fun h hR => ?_)
          refine yr_iload_n 124 C dX9_bound_123 rfl rfl ?_
          refine yr_iadd 125 C dX9_bound_124 rfl ?_
          refine yr_iload_n 126 C dX9_bound_125 rfl rfl ?_
          refine yr_iadd 127 C dX9_bound_126 rfl ?_
          refine yr_iadd 128 C dX9_bound_127 rfl ?_
          refine yr_istore1 129 C dX9_bound_128 (by decide) rfl ?_
          refine yr_iinc4 132 C (1) dX9_bound_129 rfl (by decide) rfl ?_
          rw [nI_1]
          refine yr_goto 107 C dX9_bound_132 (by decide) ?_
          exact ih (i + 1) _ (by omega) hf h hR
      exact loop107 ns 0 0 (by omega) rfl h hR
    | succ j ih =>
      intro i a c2 hij he h hR
      refine yr_iload 11 C dX9_bound_9 rfl rfl ?_
      refine yr_aload_n 12 C dX9_bound_11 rfl rfl rfl ?_
      refine ym_get 15 C hR dX9_bound_12 fl_X9_120 (by decide) rfl rfl ?_
      rw [h0.1]
      refine yr_icmp_ge 104 18 C dX9_bound_15 (by decide) rfl (fun c15 => ?_) (fun c15 => ?_)
      · exact absurd c15 (nI_ge (by omega) (by omega))
      refine yr_aload_n 19 C dX9_bound_18 rfl rfl rfl ?_
      refine ym_getA 22 C hR dX9_bound_19 fl_X9_43 (by decide) rfl rfl ?_
      refine yr_iload 24 C dX9_bound_22 rfl rfl ?_
      refine ym_aldN 25 C hR dX9_bound_24 (by decide) rfl rfl ?_ rfl ?_
      · simp only [mL]; omega
      refine yr_iload_n 26 C dX9_bound_25 rfl rfl ?_
      refine yr_icmp_le 39 29 C dX9_bound_26 (by decide) rfl (fun c26 => ?_) (fun c26 => ?_)
      · refine yr_iload_n 40 C dX9_bound_39 rfl rfl ?_
        refine yr_istore2 41 C dX9_bound_40 (by decide) rfl ?_
        rw [show a = (if S 13 i ≤ a then a else S 13 i) from by simp [c26]]
        refine yr_iconst 42 C (0) dX9_bound_41 rfl rfl ?_
        refine yr_istore5 44 C dX9_bound_42 (by decide) rfl ?_
        have inner : ∀ (j2 i2 : Nat) (c3 : Int32), i2 + j2 = np → m_bdI S i j2 i2 c3 = m_bdI S i np 0 c2 → ∀ h : yH, yMR dA ad m0 (S) h → yW p l e (yR 2 0 0) s m args below meth c 6 D A 0 0 (yF D A (fun r h' => r = some (.int (sp_bound S).1) ∧ yMR dA ad m0 ((sp_bound S).2) h') below args s 0 0) 44 [some (.ref m0), some (.int 0), some (.int (if S 13 i ≤ a then a else S 13 i)), some (.int c3), some (.int (nI i)), some (.int (nI i2))] [] h := by
          intro j2
          induction j2 with
          | zero =>
            intro i2 c3 hij2 hg h hR
            refine yr_iload 46 C dX9_bound_44 rfl rfl ?_
            refine yr_aload_n 47 C dX9_bound_46 rfl rfl rfl ?_
            refine ym_get 50 C hR dX9_bound_47 fl_X9_120 (by decide) rfl rfl ?_
            rw [h0.1]
            refine yr_icmp_ge 98 53 C dX9_bound_50 (by decide) rfl (fun c50 => ?_) (fun c50 => ?_)
            rotate_left
            · exact absurd (nI_le (by omega) (by omega)) c50
            refine yr_iinc4 101 C (1) dX9_bound_98 rfl (by decide) rfl ?_
            rw [nI_1]
            refine yr_goto 9 C dX9_bound_101 (by decide) ?_
            have hg2 : c3 = m_bdI S i np 0 c2 := hg
            refine yr_forget5 ?_
            exact ih (i + 1) _ _ (by omega) (by rw [← he, hg2]; rfl) h hR
          | succ j2 ih2 =>
            intro i2 c3 hij2 hg h hR
            refine yr_iload 46 C dX9_bound_44 rfl rfl ?_
            refine yr_aload_n 47 C dX9_bound_46 rfl rfl rfl ?_
            refine ym_get 50 C hR dX9_bound_47 fl_X9_120 (by decide) rfl rfl ?_
            rw [h0.1]
            refine yr_icmp_ge 98 53 C dX9_bound_50 (by decide) rfl (fun c50 => ?_) (fun c50 => ?_)
            · exact absurd c50 (nI_ge (by omega) (by omega))
            refine yr_aload_n 54 C dX9_bound_53 rfl rfl rfl ?_
            refine ym_getA 57 C hR dX9_bound_54 fl_X9_53 (by decide) rfl rfl ?_
            refine yr_bipush 59 C (8) dX9_bound_57 rfl rfl ?_
            refine yr_iload 61 C dX9_bound_59 rfl rfl ?_
            refine yr_imul 62 C dX9_bound_61 rfl ?_
            refine yr_iload 64 C dX9_bound_62 rfl rfl ?_
            refine yr_iadd 65 C dX9_bound_64 rfl ?_
            rw [show (8 : Int32) * nI i + nI i2 = nI (8 * i + i2) from ixm]
            refine ym_aldN 66 C hR dX9_bound_65 (by decide) rfl rfl ?_ rfl ?_
            · simp only [mL]; omega
            refine yr_iconst 67 C (1) dX9_bound_66 rfl rfl ?_
            refine yr_isub 68 C dX9_bound_67 rfl ?_
            refine yr_iload_n 69 C dX9_bound_68 rfl rfl ?_
            refine yr_icmp_le 90 72 C dX9_bound_69 (by decide) rfl (fun c69 => ?_) (fun c69 => ?_)
            · refine yr_iload_n 91 C dX9_bound_90 rfl rfl ?_
              refine yr_istore3 92 C dX9_bound_91 (by decide) rfl ?_
              refine yr_iinc5 95 C (1) dX9_bound_92 rfl (by decide) rfl ?_
              rw [nI_1]
              refine yr_goto 44 C dX9_bound_95 (by decide) ?_
              exact ih2 (i2 + 1) _ (by omega) (by rw [← hg]; simp [m_bdI, c26, c69]) h hR
            · refine yr_aload_n 73 C dX9_bound_72 rfl rfl rfl ?_
              refine ym_getA 76 C hR dX9_bound_73 fl_X9_53 (by decide) rfl rfl ?_
              refine yr_bipush 78 C (8) dX9_bound_76 rfl rfl ?_
              refine yr_iload 80 C dX9_bound_78 rfl rfl ?_
              refine yr_imul 81 C dX9_bound_80 rfl ?_
              refine yr_iload 83 C dX9_bound_81 rfl rfl ?_
              refine yr_iadd 84 C dX9_bound_83 rfl ?_
              rw [show (8 : Int32) * nI i + nI i2 = nI (8 * i + i2) from ixm]
              refine ym_aldN 85 C hR dX9_bound_84 (by decide) rfl rfl ?_ rfl ?_
              · simp only [mL]; omega
              refine yr_iconst 86 C (1) dX9_bound_85 rfl rfl ?_
              refine yr_isub 87 C dX9_bound_86 rfl ?_
              refine yr_goto 91 C dX9_bound_87 (by decide) ?_
              refine yr_istore3 92 C dX9_bound_91 (by decide) rfl ?_
              refine yr_iinc5 95 C (1) dX9_bound_92 rfl (by decide) rfl ?_
              rw [nI_1]
              refine yr_goto 44 C dX9_bound_95 (by decide) ?_
              exact ih2 (i2 + 1) _ (by omega) (by rw [← hg]; simp [m_bdI, c26, c69]) h hR
        exact inner np 0 c2 (by omega) rfl h hR
      · refine yr_aload_n 30 C dX9_bound_29 rfl rfl rfl ?_
        refine ym_getA 33 C hR dX9_bound_30 fl_X9_43 (by decide) rfl rfl ?_
        refine yr_iload 35 C dX9_bound_33 rfl rfl ?_
        refine ym_aldN 36 C hR dX9_bound_35 (by decide) rfl rfl ?_ rfl ?_
        · simp only [mL]; omega
        refine yr_goto 40 C dX9_bound_36 (by decide) ?_
        refine yr_istore2 41 C dX9_bound_40 (by decide) rfl ?_
        rw [show S 13 i = (if S 13 i ≤ a then a else S 13 i) from by simp [c26]]
        refine yr_iconst 42 C (0) dX9_bound_41 rfl rfl ?_
        refine yr_istore5 44 C dX9_bound_42 (by decide) rfl ?_
        have inner : ∀ (j2 i2 : Nat) (c3 : Int32), i2 + j2 = np → m_bdI S i j2 i2 c3 = m_bdI S i np 0 c2 → ∀ h : yH, yMR dA ad m0 (S) h → yW p l e (yR 2 0 0) s m args below meth c 6 D A 0 0 (yF D A (fun r h' => r = some (.int (sp_bound S).1) ∧ yMR dA ad m0 ((sp_bound S).2) h') below args s 0 0) 44 [some (.ref m0), some (.int 0), some (.int (if S 13 i ≤ a then a else S 13 i)), some (.int c3), some (.int (nI i)), some (.int (nI i2))] [] h := by
          intro j2
          induction j2 with
          | zero =>
            intro i2 c3 hij2 hg h hR
            refine yr_iload 46 C dX9_bound_44 rfl rfl ?_
            refine yr_aload_n 47 C dX9_bound_46 rfl rfl rfl ?_
            refine ym_get 50 C hR dX9_bound_47 fl_X9_120 (by decide) rfl rfl ?_
            rw [h0.1]
            refine yr_icmp_ge 98 53 C dX9_bound_50 (by decide) rfl (fun c50 => ?_) (fun c50 => ?_)
            rotate_left
            · exact absurd (nI_le (by omega) (by omega)) c50
            refine yr_iinc4 101 C (1) dX9_bound_98 rfl (by decide) rfl ?_
            rw [nI_1]
            refine yr_goto 9 C dX9_bound_101 (by decide) ?_
            have hg2 : c3 = m_bdI S i np 0 c2 := hg
            refine yr_forget5 ?_
            exact ih (i + 1) _ _ (by omega) (by rw [← he, hg2]; rfl) h hR
          | succ j2 ih2 =>
            intro i2 c3 hij2 hg h hR
            refine yr_iload 46 C dX9_bound_44 rfl rfl ?_
            refine yr_aload_n 47 C dX9_bound_46 rfl rfl rfl ?_
            refine ym_get 50 C hR dX9_bound_47 fl_X9_120 (by decide) rfl rfl ?_
            rw [h0.1]
            refine yr_icmp_ge 98 53 C dX9_bound_50 (by decide) rfl (fun c50 => ?_) (fun c50 => ?_)
            · exact absurd c50 (nI_ge (by omega) (by omega))
            refine yr_aload_n 54 C dX9_bound_53 rfl rfl rfl ?_
            refine ym_getA 57 C hR dX9_bound_54 fl_X9_53 (by decide) rfl rfl ?_
            refine yr_bipush 59 C (8) dX9_bound_57 rfl rfl ?_
            refine yr_iload 61 C dX9_bound_59 rfl rfl ?_
            refine yr_imul 62 C dX9_bound_61 rfl ?_
            refine yr_iload 64 C dX9_bound_62 rfl rfl ?_
            refine yr_iadd 65 C dX9_bound_64 rfl ?_
            rw [show (8 : Int32) * nI i + nI i2 = nI (8 * i + i2) from ixm]
            refine ym_aldN 66 C hR dX9_bound_65 (by decide) rfl rfl ?_ rfl ?_
            · simp only [mL]; omega
            refine yr_iconst 67 C (1) dX9_bound_66 rfl rfl ?_
            refine yr_isub 68 C dX9_bound_67 rfl ?_
            refine yr_iload_n 69 C dX9_bound_68 rfl rfl ?_
            refine yr_icmp_le 90 72 C dX9_bound_69 (by decide) rfl (fun c69 => ?_) (fun c69 => ?_)
            · refine yr_iload_n 91 C dX9_bound_90 rfl rfl ?_
              refine yr_istore3 92 C dX9_bound_91 (by decide) rfl ?_
              refine yr_iinc5 95 C (1) dX9_bound_92 rfl (by decide) rfl ?_
              rw [nI_1]
              refine yr_goto 44 C dX9_bound_95 (by decide) ?_
              exact ih2 (i2 + 1) _ (by omega) (by rw [← hg]; simp [m_bdI, c26, c69]) h hR
            · refine yr_aload_n 73 C dX9_bound_72 rfl rfl rfl ?_
              refine ym_getA 76 C hR dX9_bound_73 fl_X9_53 (by decide) rfl rfl ?_
              refine yr_bipush 78 C (8) dX9_bound_76 rfl rfl ?_
              refine yr_iload 80 C dX9_bound_78 rfl rfl ?_
              refine yr_imul 81 C dX9_bound_80 rfl ?_
              refine yr_iload 83 C dX9_bound_81 rfl rfl ?_
              refine yr_iadd 84 C dX9_bound_83 rfl ?_
              rw [show (8 : Int32) * nI i + nI i2 = nI (8 * i + i2) from ixm]
              refine ym_aldN 85 C hR dX9_bound_84 (by decide) rfl rfl ?_ rfl ?_
              · simp only [mL]; omega
              refine yr_iconst 86 C (1) dX9_bound_85 rfl rfl ?_
              refine yr_isub 87 C dX9_bound_86 rfl ?_
              refine yr_goto 91 C dX9_bound_87 (by decide) ?_
              refine yr_istore3 92 C dX9_bound_91 (by decide) rfl ?_
              refine yr_iinc5 95 C (1) dX9_bound_92 rfl (by decide) rfl ?_
              rw [nI_1]
              refine yr_goto 44 C dX9_bound_95 (by decide) ?_
              exact ih2 (i2 + 1) _ (by omega) (by rw [← hg]; simp [m_bdI, c26, c69]) h hR
        exact inner np 0 c2 (by omega) rfl h hR
  exact loop9 np 0 0 0 (by omega) rfl h hR
end M10
