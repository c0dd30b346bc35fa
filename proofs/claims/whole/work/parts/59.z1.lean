/-! the invariant behind each call, and the class's calls over XI -/
theorem mI_sec {np ns nd nr : Nat} : ∀ (j d : Nat) (met : Bool) {S : yS} {no t : Nat}, mI S np ns nd no nr t → t + j < 2 ^ 20 → ∃ no2 t2, t2 ≤ t + j ∧ mI (m_secL j d met S).2 np ns nd no2 nr t2
  | 0, _, _, _, no, t, h, _ => ⟨no, t, by omega, h⟩
  | j + 1, d, met, S, no, t, h, ht => by
    cases met with
    | true => exact ⟨no, t, by omega, h⟩
    | false =>
      obtain ⟨no2, h2⟩ := mI_pass h (by omega)
      show ∃ no2 t2, t2 ≤ t + (j + 1) ∧ mI (m_secL j (d + 1) (m_passS S).1 (m_passS S).2).2 np ns nd no2 nr t2
      rw [passS_eq h (by omega)]
      obtain ⟨n3, t3, a, b⟩ := mI_sec j (d + 1) (m_pass S np ns no nr t).1 h2 (by omega)
      exact ⟨n3, t3, by omega, b⟩
section Z1
variable {S : yS} {np ns nd no nr t : Nat}
theorem mS_lamp (q u : Int32) (hu : u = 0 ∨ u = 1) (h : mI S np ns nd no nr t) : mI (sp_lamp S q u).2 np ns nd no nr t ∧ (sp_lamp S q u).2 5 = S 5 := by
  unfold sp_lamp
  cases c : m_isP S q with
  | false => exact ⟨h, rfl⟩
  | true =>
    obtain ⟨j, hj, rfl⟩ := m_isP_ix h c
    have n0 : np ≤ 8 := (h 0).2
    refine ⟨?_, rfl⟩
    show mI (mset S 14 (ix (nI j)) u) np ns nd no nr t
    rw [ix_nI (by omega)]
    exact mI_lamp hj hu h
theorem mS_alarm (h : mI S np ns nd no nr t) : mI (sp_alarm S).2 np ns nd no nr t ∧ (sp_alarm S).2 5 = S 5 := by
  unfold sp_alarm
  split
  · exact ⟨mI_alarm h, rfl⟩
  · exact ⟨h, rfl⟩
theorem mS_ask (q : Int32) (h : mI S np ns nd no nr t) : mI (sp_ask S q).2 np ns nd no nr t ∧ (sp_ask S q).2 5 = S 5 := by
  unfold sp_ask
  cases c : m_isP S q with
  | false => exact ⟨h, rfl⟩
  | true =>
    obtain ⟨j, hj, rfl⟩ := m_isP_ix h c
    have n0 : np ≤ 8 := (h 0).2
    rw [if_pos rfl, ix_nI (by omega)]
    split
    · exact ⟨h, rfl⟩
    · rename_i c2
      exact ⟨mI_ask hj (fun z => c2 (Or.inr z)) h, rfl⟩
theorem mS_hurry (q : Int32) (h : mI S np ns nd no nr t) : mI (sp_hurry S q).2 np ns nd no nr t ∧ (sp_hurry S q).2 5 = S 5 := by
  unfold sp_hurry
  cases c : m_isS S q with
  | false => exact ⟨h, rfl⟩
  | true =>
    obtain ⟨j, hj, rfl⟩ := m_isS_ix h c
    rw [if_pos rfl]
    repeat' split
    · exact ⟨h, rfl⟩
    · rename_i c2
      exact ⟨mI_hurry hj c2 h, rfl⟩
    · exact ⟨h, rfl⟩
theorem mS_cut (q : Int32) (h : mI S np ns nd no nr t) : mI (sp_cut S q).2 np ns nd no nr t ∧ (sp_cut S q).2 5 = S 5 := by
  unfold sp_cut
  repeat' split
  · exact ⟨mI_cut h, rfl⟩
  · exact ⟨h, rfl⟩
  · exact ⟨h, rfl⟩
theorem mS_passing (q a b : Int32) (h : mI S np ns nd no nr t) : mI (sp_passing S q a b).2 np ns nd no nr t ∧ (sp_passing S q a b).2 5 = S 5 := by
  unfold sp_passing
  by_cases c : (m_isD S q && m_in a (-128) 127 && m_in b 0 10000) = true
  · rw [if_pos c]
    have c1 : m_isD S q = true := by
      simp only [Bool.and_eq_true] at c
      exact c.1.1
    obtain ⟨j, hj, rfl⟩ := m_isD_ix h c1
    have n2 : nd ≤ 12 := (h 2).2
    rw [ix_nI (by omega)]
    by_cases c2 : 0 ≤ S 20 j
    · rw [if_pos c2]
      by_cases c3 : S 20 j = 200
      · rw [if_pos c3]
        exact ⟨h, rfl⟩
      · rw [if_neg c3]
        rcases (h 8) j hj with z | ⟨z, hz, ez⟩
        · rw [z] at c2
          exact absurd c2 (by decide)
        · have hz2 : z < 200 := by
            rcases (by omega : z < 200 ∨ z = 200) with y | y
            · exact y
            · rw [ez, y] at c3
              exact absurd rfl c3
          refine ⟨?_, ?_⟩
          · show mI (mset (mset (mset S 21 (200 * j + ix (S 20 j)) a) 22 (200 * j + ix (S 20 j)) b) 20 j (S 20 j + 1)) np ns nd no nr t
            rw [show S 20 j + 1 = nI z + 1 by rw [ez]]
            exact mI_passing hz2 h
          · show mset (mset (mset S 21 (200 * j + ix (S 20 j)) a) 22 (200 * j + ix (S 20 j)) b) 20 j (S 20 j + 1) 5 = S 5
            rw [mset_ne _ _ (by decide), mset_ne _ _ (by decide), mset_ne _ _ (by decide)]
    · rw [if_neg c2]
      exact ⟨h, rfl⟩
  · rw [if_neg c]
    exact ⟨h, rfl⟩
theorem mS_conflict (q u a b : Int32) (h : mI S np ns nd no nr t) : mI (sp_conflict S q u a b).2 np ns nd no nr t ∧ (sp_conflict S q u a b).2 5 = S 5 := by
  unfold sp_conflict
  by_cases c : (m_isP S q && m_isP S u && !decide (q = u) && m_in a 0 20 && m_in b 0 20) = true
  · rw [if_pos c]
    simp only [Bool.and_eq_true, Bool.not_eq_true', decide_eq_false_iff_not] at c
    obtain ⟨⟨⟨⟨c1, c2⟩, c3⟩, c4⟩, c5⟩ := c
    obtain ⟨j, hj, rfl⟩ := m_isP_ix h c1
    obtain ⟨k, hk, rfl⟩ := m_isP_ix h c2
    obtain ⟨x, hx, rfl⟩ := m_in_3 (k := 20) (by decide) c4
    obtain ⟨y, hy, rfl⟩ := m_in_3 (k := 20) (by decide) c5
    have n0 : np ≤ 8 := (h 0).2
    rw [ix_nI (by omega), ix_nI (by omega)]
    repeat' split
    · exact ⟨h, rfl⟩
    · refine ⟨mI_conflict hj hk (fun z => c3 (by rw [z])) hx hy h, ?_⟩
      show mset (mset S 16 (8 * j + k) (nI x + 1)) 16 (8 * k + j) (nI y + 1) 5 = S 5
      rw [mset_ne _ _ (by decide), mset_ne _ _ (by decide)]
    · exact ⟨h, rfl⟩
  · rw [if_neg c]
    exact ⟨h, rfl⟩
theorem mS_place (q n : Int32) (h : mI S np ns nd no nr t) : mI (sp_place S q n).2 np ns nd no nr t ∧ (sp_place S q n).2 5 = S 5 := by
  unfold sp_place
  split
  · show mI (if 0 ≤ S 18 (4 * ix q + ix n) then S else m_found S 4 (-5)) np ns nd no nr t ∧ (if 0 ≤ S 18 (4 * ix q + ix n) then S else m_found S 4 (-5)) 5 = S 5
    split
    · exact ⟨h, rfl⟩
    · exact ⟨mI_found 4 (-5) h, m_found_rw S 4 (-5) 5 (by decide)⟩
  · exact ⟨h, rfl⟩
theorem mS_restore (h : mI S np ns nd no nr t) : mI (sp_restore S).2 np ns nd no nr t := by
  unfold sp_restore
  split
  · exact h
  · rename_i c
    have h0 : S 1 0 = nI np ∧ np ≤ 8 := h 0
    show mI (m_allL 0 (ix (S 1 0)) 0 (mset S 44 0 0)) np ns nd no nr t
    rw [h0.1, ix_nI (by omega)]
    exact mI_restore (h 30 c) h
end Z1
theorem XI_mI {dA : Nat → ClassId} {t0 : Nat} {S : yS} {x0 T : Nat} {h : yH} (hX : XI dA t0 S x0 T h) : ∃ np ns nd no nr t, t ≤ T ∧ mI S np ns nd no nr t := by
  obtain ⟨mc, cap, B, N, t, _, _, hI, ht⟩ := hX
  exact ⟨_, _, _, _, _, t, ht, hI⟩
section Z1x
variable {D : va_G} {dA : Nat → ClassId} {t0 mi : Nat} {S : yS} {x0 T : Nat}
theorem xz_phase (q : Int32) (h : yH) (hT : T + 4 < 2 ^ 20) (hX : XI dA t0 S x0 T h) : yM (yZ t0 mi D dA) D yX8_phase cX8_phase 3 (some .int) 7 4 120 [.ref x0, .int q] h (fun r h' => r = some (.int (sp_phase S q).1) ∧ XI dA t0 (sp_phase S q).2 x0 (T + 4) h') := by
  obtain ⟨mc, cap, B, N, t, rfl, hR, hI, hle⟩ := hX
  have q0 := xc_phase (D := D) (mi := mi) q hI (by omega) rfl h hR
  refine yM_mono q0 (fun r h1 hq => ⟨hq.1, ?_⟩)
  obtain ⟨mc2, cap2, B2, N2, t2, e2, R2, I2, l2⟩ := hq.2
  exact ⟨mc2, cap2, B2, N2, t2, e2, R2, I2, by omega⟩
theorem xz_conflict (q w a b : Int32) (h : yH) (hT : T + 4 < 2 ^ 20) (hX : XI dA t0 S x0 T h) : yM (yZ t0 mi D dA) D yX8_conflict cX8_conflict 9 (some .int) 4 0 0 [.ref x0, .int q, .int w, .int a, .int b] h (fun r h' => r = some (.int (sp_conflict S q w a b).1) ∧ XI dA t0 (sp_conflict S q w a b).2 x0 (T + 4) h') := by
  obtain ⟨mc, cap, B, N, t, rfl, hR, hI, hle⟩ := hX
  have q0 := xc_conflict (D := D) (mi := mi) q w a b hI (by omega) rfl h hR
  obtain ⟨I2, e5⟩ := mS_conflict q w a b hI
  exact yM_mono q0 (fun r h1 hq => ⟨hq.1, mc, cap, B, N, t, rfl, by rw [e5]; exact hq.2, I2, by omega⟩)
theorem xz_stage (x1 x2 x3 x4 : Int32) (h : yH) (hT : T + 4 < 2 ^ 20) (hX : XI dA t0 S x0 T h) : yM (yZ t0 mi D dA) D yX8_stage cX8_stage 9 (some .int) 7 4 44 [.ref x0, .int x1, .int x2, .int x3, .int x4] h (fun r h' => r = some (.int (sp_stage S x1 x2 x3 x4).1) ∧ XI dA t0 (sp_stage S x1 x2 x3 x4).2 x0 (T + 4) h') := by
  obtain ⟨mc, cap, B, N, t, rfl, hR, hI, hle⟩ := hX
  have q0 := xc_stage (D := D) (mi := mi) x1 x2 x3 x4 hI (by omega) rfl h hR
  refine yM_mono q0 (fun r h1 hq => ⟨hq.1, ?_⟩)
  obtain ⟨mc2, cap2, B2, N2, t2, e2, R2, I2, l2⟩ := hq.2
  exact ⟨mc2, cap2, B2, N2, t2, e2, R2, I2, by omega⟩
theorem xz_detector (q : Int32) (h : yH) (hT : T + 4 < 2 ^ 20) (hX : XI dA t0 S x0 T h) : yM (yZ t0 mi D dA) D yX8_detector cX8_detector 4 (some .int) 7 4 440 [.ref x0, .int q] h (fun r h' => r = some (.int (sp_detector S q).1) ∧ XI dA t0 (sp_detector S q).2 x0 (T + 4) h') := by
  obtain ⟨mc, cap, B, N, t, rfl, hR, hI, hle⟩ := hX
  have q0 := xc_detector (D := D) (mi := mi) q hI (by omega) rfl h hR
  refine yM_mono q0 (fun r h1 hq => ⟨hq.1, ?_⟩)
  obtain ⟨mc2, cap2, B2, N2, t2, e2, R2, I2, l2⟩ := hq.2
  exact ⟨mc2, cap2, B2, N2, t2, e2, R2, I2, by omega⟩
theorem xz_cut (q : Int32) (h : yH) (hT : T + 4 < 2 ^ 20) (hX : XI dA t0 S x0 T h) : yM (yZ t0 mi D dA) D yX8_cut cX8_cut 3 (some .int) 4 0 0 [.ref x0, .int q] h (fun r h' => r = some (.int (sp_cut S q).1) ∧ XI dA t0 (sp_cut S q).2 x0 (T + 4) h') := by
  obtain ⟨mc, cap, B, N, t, rfl, hR, hI, hle⟩ := hX
  have q0 := xc_cut (D := D) (mi := mi) q hI (by omega) rfl h hR
  obtain ⟨I2, e5⟩ := mS_cut q hI
  exact yM_mono q0 (fun r h1 hq => ⟨hq.1, mc, cap, B, N, t, rfl, by rw [e5]; exact hq.2, I2, by omega⟩)
theorem xz_passing (q u v : Int32) (h : yH) (hT : T + 4 < 2 ^ 20) (hX : XI dA t0 S x0 T h) : yM (yZ t0 mi D dA) D yX8_passing cX8_passing 5 (some .int) 4 0 0 [.ref x0, .int q, .int u, .int v] h (fun r h' => r = some (.int (sp_passing S q u v).1) ∧ XI dA t0 (sp_passing S q u v).2 x0 (T + 4) h') := by
  obtain ⟨mc, cap, B, N, t, rfl, hR, hI, hle⟩ := hX
  have q0 := xc_passing (D := D) (mi := mi) q u v hI (by omega) rfl h hR
  obtain ⟨I2, e5⟩ := mS_passing q u v hI
  exact yM_mono q0 (fun r h1 hq => ⟨hq.1, mc, cap, B, N, t, rfl, by rw [e5]; exact hq.2, I2, by omega⟩)
theorem xz_table (q x y z u : Int32) (h : yH) (hT : T + 4 < 2 ^ 20) (hX : XI dA t0 S x0 T h) : yM (yZ t0 mi D dA) D yX8_table cX8_table 7 (some .int) 7 2 35 [.ref x0, .int q, .int x, .int y, .int z, .int u] h (fun r h' => r = some (.int (sp_table S q x y z u).1) ∧ XI dA t0 (sp_table S q x y z u).2 x0 (T + 4) h') := by
  obtain ⟨mc, cap, B, N, t, rfl, hR, hI, hle⟩ := hX
  have q0 := xc_table (D := D) (mi := mi) q x y z u hI (by omega) rfl h hR
  refine yM_mono q0 (fun r h1 hq => ⟨hq.1, ?_⟩)
  obtain ⟨mc2, cap2, B2, N2, t2, e2, R2, I2, l2⟩ := hq.2
  exact ⟨mc2, cap2, B2, N2, t2, e2, R2, I2, by omega⟩
theorem xz_lamp (q u : Int32) (hu : u = 0 ∨ u = 1) (h : yH) (hT : T + 4 < 2 ^ 20) (hX : XI dA t0 S x0 T h) : yM (yZ t0 mi D dA) D yX8_lamp cX8_lamp 5 (some .int) 4 0 0 [.ref x0, .int q, .int u] h (fun r h' => r = some (.int (sp_lamp S q u).1) ∧ XI dA t0 (sp_lamp S q u).2 x0 (T + 4) h') := by
  obtain ⟨mc, cap, B, N, t, rfl, hR, hI, hle⟩ := hX
  have q0 := xc_lamp (D := D) (mi := mi) q u hu hI (by omega) rfl h hR
  obtain ⟨I2, e5⟩ := mS_lamp q u hu hI
  exact yM_mono q0 (fun r h1 hq => ⟨hq.1, mc, cap, B, N, t, rfl, by rw [e5]; exact hq.2, I2, by omega⟩)
theorem xz_pair (q w x : Int32) (h : yH) (hT : T + 4 < 2 ^ 20) (hX : XI dA t0 S x0 T h) : yM (yZ t0 mi D dA) D yX8_pair cX8_pair 6 (some .int) 7 2 34 [.ref x0, .int q, .int w, .int x] h (fun r h' => r = some (.int (sp_pair S q w x).1) ∧ XI dA t0 (sp_pair S q w x).2 x0 (T + 4) h') := by
  obtain ⟨mc, cap, B, N, t, rfl, hR, hI, hle⟩ := hX
  have q0 := xc_pair (D := D) (mi := mi) q w x hI (by omega) rfl h hR
  refine yM_mono q0 (fun r h1 hq => ⟨hq.1, ?_⟩)
  obtain ⟨mc2, cap2, B2, N2, t2, e2, R2, I2, l2⟩ := hq.2
  exact ⟨mc2, cap2, B2, N2, t2, e2, R2, I2, by omega⟩
theorem xz_ask (q : Int32) (h : yH) (hT : T + 4 < 2 ^ 20) (hX : XI dA t0 S x0 T h) : yM (yZ t0 mi D dA) D yX8_ask cX8_ask 3 (some .int) 4 0 0 [.ref x0, .int q] h (fun r h' => r = some (.int (sp_ask S q).1) ∧ XI dA t0 (sp_ask S q).2 x0 (T + 4) h') := by
  obtain ⟨mc, cap, B, N, t, rfl, hR, hI, hle⟩ := hX
  have q0 := xc_ask (D := D) (mi := mi) q hI (by omega) rfl h hR
  obtain ⟨I2, e5⟩ := mS_ask q hI
  exact yM_mono q0 (fun r h1 hq => ⟨hq.1, mc, cap, B, N, t, rfl, by rw [e5]; exact hq.2, I2, by omega⟩)
theorem xz_hurry (q : Int32) (h : yH) (hT : T + 4 < 2 ^ 20) (hX : XI dA t0 S x0 T h) : yM (yZ t0 mi D dA) D yX8_hurry cX8_hurry 3 (some .int) 4 0 0 [.ref x0, .int q] h (fun r h' => r = some (.int (sp_hurry S q).1) ∧ XI dA t0 (sp_hurry S q).2 x0 (T + 4) h') := by
  obtain ⟨mc, cap, B, N, t, rfl, hR, hI, hle⟩ := hX
  have q0 := xc_hurry (D := D) (mi := mi) q hI (by omega) rfl h hR
  obtain ⟨I2, e5⟩ := mS_hurry q hI
  exact yM_mono q0 (fun r h1 hq => ⟨hq.1, mc, cap, B, N, t, rfl, by rw [e5]; exact hq.2, I2, by omega⟩)
theorem xz_second (q : Int32) (h : yH) (hT : T + 4 < 2 ^ 20) (hX : XI dA t0 S x0 T h) : yM (yZ t0 mi D dA) D yX8_second cX8_second 4 (some .int) 6 0 0 [.ref x0, .int q] h (fun r h' => r = some (.int (sp_second S q).1) ∧ XI dA t0 (sp_second S q).2 x0 (T + 4) h') := by
  obtain ⟨mc, cap, B, N, t, rfl, hR, hI, hle⟩ := hX
  have q0 := xc_second (D := D) (mi := mi) q hI (by omega) rfl h hR
  refine yM_mono q0 (fun r h1 hq => ⟨hq.1, ?_⟩)
  obtain ⟨mc2, cap2, B2, N2, t2, e2, R2, I2, l2⟩ := hq.2
  exact ⟨mc2, cap2, B2, N2, t2, e2, R2, I2, by omega⟩
theorem xz_alarm  (h : yH) (hT : T + 4 < 2 ^ 20) (hX : XI dA t0 S x0 T h) : yM (yZ t0 mi D dA) D yX8_alarm cX8_alarm 1 (some .int) 0 0 0 [.ref x0] h (fun r h' => r = some (.int (sp_alarm S).1) ∧ XI dA t0 (sp_alarm S).2 x0 (T + 4) h') := by
  obtain ⟨mc, cap, B, N, t, rfl, hR, hI, hle⟩ := hX
  have q0 := xc_alarm (D := D) (mi := mi)  hI (by omega) rfl h hR
  obtain ⟨I2, e5⟩ := mS_alarm  hI
  exact yM_mono q0 (fun r h1 hq => ⟨hq.1, mc, cap, B, N, t, rfl, by rw [e5]; exact hq.2, I2, by omega⟩)
theorem xz_restore  (h : yH) (hT : T + 4 < 2 ^ 20) (hX : XI dA t0 S x0 T h) : yM (yZ t0 mi D dA) D yX8_restore cX8_restore 1 (some .int) 5 0 0 [.ref x0] h (fun r h' => r = some (.int (sp_restore S).1) ∧ XI dA t0 (sp_restore S).2 x0 (T + 4) h') := by
  obtain ⟨mc, cap, B, N, t, rfl, hR, hI, hle⟩ := hX
  have q0 := xc_restore (D := D) (mi := mi)  hI (by omega) rfl h hR
  exact yM_mono q0 (fun r h1 hq => ⟨hq.1, mc, cap, B, N, t, rfl, hq.2, mS_restore hI, by omega⟩)
theorem xz_light (q : Int32) (h : yH) (hT : T + 4 < 2 ^ 20) (hX : XI dA t0 S x0 T h) : yM (yZ t0 mi D dA) D yX8_light cX8_light 3 (some .int) 4 0 0 [.ref x0, .int q] h (fun r h' => r = some (.int (sp_light S q).1) ∧ XI dA t0 (sp_light S q).2 x0 (T + 4) h') := by
  obtain ⟨mc, cap, B, N, t, rfl, hR, hI, hle⟩ := hX
  have q0 := xc_light (D := D) (mi := mi) q hI (by omega) rfl h hR
  exact yM_mono q0 (fun r h1 hq => ⟨hq.1, mc, cap, B, N, t, rfl, hq.2, hI, by omega⟩)
theorem xz_was (q n : Int32) (h : yH) (hT : T + 4 < 2 ^ 20) (hX : XI dA t0 S x0 T h) : yM (yZ t0 mi D dA) D yX8_was cX8_was 4 (some .int) 4 0 0 [.ref x0, .int q, .int n] h (fun r h' => r = some (.int (sp_was S q n).1) ∧ XI dA t0 (sp_was S q n).2 x0 (T + 4) h') := by
  obtain ⟨mc, cap, B, N, t, rfl, hR, hI, hle⟩ := hX
  have q0 := xc_was (D := D) (mi := mi) q n hI (by omega) rfl h hR
  exact yM_mono q0 (fun r h1 hq => ⟨hq.1, mc, cap, B, N, t, rfl, hq.2, hI, by omega⟩)
theorem xz_stageOf (q : Int32) (h : yH) (hT : T + 4 < 2 ^ 20) (hX : XI dA t0 S x0 T h) : yM (yZ t0 mi D dA) D yX8_stageOf cX8_stageOf 2 (some .int) 4 0 0 [.ref x0, .int q] h (fun r h' => r = some (.int (sp_stageOf S q).1) ∧ XI dA t0 (sp_stageOf S q).2 x0 (T + 4) h') := by
  obtain ⟨mc, cap, B, N, t, rfl, hR, hI, hle⟩ := hX
  have q0 := xc_stageOf (D := D) (mi := mi) q hI (by omega) rfl h hR
  exact yM_mono q0 (fun r h1 hq => ⟨hq.1, mc, cap, B, N, t, rfl, hq.2, hI, by omega⟩)
theorem xz_place (q n : Int32) (h : yH) (hT : T + 4 < 2 ^ 20) (hX : XI dA t0 S x0 T h) : yM (yZ t0 mi D dA) D yX8_place cX8_place 5 (some .int) 4 0 0 [.ref x0, .int q, .int n] h (fun r h' => r = some (.int (sp_place S q n).1) ∧ XI dA t0 (sp_place S q n).2 x0 (T + 4) h') := by
  obtain ⟨mc, cap, B, N, t, rfl, hR, hI, hle⟩ := hX
  have q0 := xc_place (D := D) (mi := mi) q n hI (by omega) rfl h hR
  obtain ⟨I2, e5⟩ := mS_place q n hI
  exact yM_mono q0 (fun r h1 hq => ⟨hq.1, mc, cap, B, N, t, rfl, by rw [e5]; exact hq.2, I2, by omega⟩)
theorem xz_told (q n : Int32) (h : yH) (hT : T + 4 < 2 ^ 20) (hX : XI dA t0 S x0 T h) : yM (yZ t0 mi D dA) D yX8_told cX8_told 4 (some .int) 4 0 0 [.ref x0, .int q, .int n] h (fun r h' => r = some (.int (sp_told S q n).1) ∧ XI dA t0 (sp_told S q n).2 x0 (T + 4) h') := by
  obtain ⟨mc, cap, B, N, t, rfl, hR, hI, hle⟩ := hX
  have q0 := xc_told (D := D) (mi := mi) q n hI (by omega) rfl h hR
  exact yM_mono q0 (fun r h1 hq => ⟨hq.1, mc, cap, B, N, t, rfl, hq.2, hI, by omega⟩)
theorem xz_length (q : Int32) (h : yH) (hT : T + 4 < 2 ^ 20) (hX : XI dA t0 S x0 T h) : yM (yZ t0 mi D dA) D yX8_length cX8_length 3 (some .int) 4 0 0 [.ref x0, .int q] h (fun r h' => r = some (.int (sp_length S q).1) ∧ XI dA t0 (sp_length S q).2 x0 (T + 4) h') := by
  obtain ⟨mc, cap, B, N, t, rfl, hR, hI, hle⟩ := hX
  have q0 := xc_length (D := D) (mi := mi) q hI (by omega) rfl h hR
  exact yM_mono q0 (fun r h1 hq => ⟨hq.1, mc, cap, B, N, t, rfl, hq.2, hI, by omega⟩)
theorem xz_bound  (h : yH) (hT : T + 4 < 2 ^ 20) (hX : XI dA t0 S x0 T h) : yM (yZ t0 mi D dA) D yX8_bound cX8_bound 5 (some .int) 3 0 0 [.ref x0] h (fun r h' => r = some (.int (sp_bound S).1) ∧ XI dA t0 (sp_bound S).2 x0 (T + 4) h') := by
  obtain ⟨mc, cap, B, N, t, rfl, hR, hI, hle⟩ := hX
  have q0 := xc_bound (D := D) (mi := mi)  hI (by omega) rfl h hR
  exact yM_mono q0 (fun r h1 hq => ⟨hq.1, mc, cap, B, N, t, rfl, hq.2, hI, by omega⟩)
theorem xz_count (q : Int32) (h : yH) (hT : T + 4 < 2 ^ 20) (hX : XI dA t0 S x0 T h) : yM (yZ t0 mi D dA) D yX8_count cX8_count 2 (some .int) 1 0 0 [.ref x0, .int q] h (fun r h' => r = some (.int (sp_count S q).1) ∧ XI dA t0 (sp_count S q).2 x0 (T + 4) h') := by
  obtain ⟨mc, cap, B, N, t, rfl, hR, hI, hle⟩ := hX
  have q0 := xc_count (D := D) (mi := mi) q hI (by omega) rfl h hR
  exact yM_mono q0 (fun r h1 hq => ⟨hq.1, mc, cap, B, N, t, rfl, hq.2, hI, by omega⟩)
theorem xz_finding (q : Int32) (h : yH) (hT : T + 4 < 2 ^ 20) (hX : XI dA t0 S x0 T h) : yM (yZ t0 mi D dA) D yX8_finding cX8_finding 2 (some .int) 0 0 0 [.ref x0, .int q] h (fun r h' => r = some (.int (sp_finding S q).1) ∧ XI dA t0 (sp_finding S q).2 x0 (T + 4) h') := by
  obtain ⟨mc, cap, B, N, t, rfl, hR, hI, hle⟩ := hX
  have q0 := xc_finding (D := D) (mi := mi) q hI (by omega) rfl h hR
  exact yM_mono q0 (fun r h1 hq => ⟨hq.1, mc, cap, B, N, t, rfl, hq.2, hI, by omega⟩)
theorem xz_fault (q : Int32) (h : yH) (hT : T + 4 < 2 ^ 20) (hX : XI dA t0 S x0 T h) : yM (yZ t0 mi D dA) D yX8_fault cX8_fault 2 (some .int) 0 0 0 [.ref x0, .int q] h (fun r h' => r = some (.int (sp_fault S q).1) ∧ XI dA t0 (sp_fault S q).2 x0 (T + 4) h') := by
  obtain ⟨mc, cap, B, N, t, rfl, hR, hI, hle⟩ := hX
  have q0 := xc_fault (D := D) (mi := mi) q hI (by omega) rfl h hR
  exact yM_mono q0 (fun r h1 hq => ⟨hq.1, mc, cap, B, N, t, rfl, hq.2, hI, by omega⟩)
theorem xz_trace  (h : yH) (hT : T + 4 < 2 ^ 20) (hX : XI dA t0 S x0 T h) : yM (yZ t0 mi D dA) D yX8_trace cX8_trace 1 (some .int) 0 0 0 [.ref x0] h (fun r h' => r = some (.int (sp_trace S).1) ∧ XI dA t0 (sp_trace S).2 x0 (T + 4) h') := by
  obtain ⟨mc, cap, B, N, t, rfl, hR, hI, hle⟩ := hX
  have q0 := xc_trace (D := D) (mi := mi)  hI (by omega) rfl h hR
  exact yM_mono q0 (fun r h1 hq => ⟨hq.1, mc, cap, B, N, t, rfl, hq.2, hI, by omega⟩)
end Z1x
