/-- the rows of a phase's detector, if they reach place y -/
def m_rows (S : yS) (z y : Nat) : Int32 × yS := if S 4 z < 0 then (-5, m_found S 1 (nI z)) else if 0 ≤ S 20 (ix (S 4 z)) then (if nI y < S 20 (ix (S 4 z)) then (S 4 z, S) else (-5, m_found S 2 (nI z))) else (-5, m_found S 1 (nI z))
theorem ra_cases {S : yS} {z t nd : Nat} (hn : nd ≤ 12) (ht : t < 2 ^ 20) (h0 : S 0 0 = nI t) (hq : cO (S 4 z) nd) (h20 : ∀ d, d < nd → cO (S 20 d) 201) :
    ((m_rows S z t).1 = -5 ∧ (m_rows S z t).2 = (m_readAt S z).2 ∧ (m_readAt S z).1 = -1) ∨ ∃ d n, d < nd ∧ n < 201 ∧ t < n ∧ S 4 z = nI d ∧ S 20 d = nI n ∧ (m_rows S z t).1 = nI d ∧ (m_rows S z t).2 = S ∧ (m_readAt S z).1 = nI (200 * d + t) ∧ (m_readAt S z).2 = S := by
  unfold m_rows m_readAt
  rcases hq with e | ⟨d, hd, e⟩
  · left
    have a : S 4 z < 0 := by rw [e]; decide
    simp only [if_pos a]
    exact ⟨(by first | rfl | trivial), (by first | rfl | trivial), (by first | rfl | trivial)⟩
  · have a : ¬ S 4 z < 0 := by rw [e]; exact nI_pos (by omega)
    have a2 : ix (S 4 z) = d := by rw [e]; exact ix_nI (by omega)
    simp only [if_neg a, a2]
    rcases h20 d hd with f | ⟨n, hn2, f⟩
    · left
      have b : ¬ 0 ≤ S 20 d := by rw [f]; decide
      simp only [if_neg b]
      exact ⟨(by first | rfl | trivial), (by first | rfl | trivial), (by first | rfl | trivial)⟩
    · have b : 0 ≤ S 20 d := by rw [f]; exact nI_pos' (by omega)
      simp only [if_pos b, h0]
      by_cases c : nI t < S 20 d
      · right
        simp only [if_pos c]
        refine ⟨d, n, hd, hn2, ?_, e, f, e, (by first | rfl | trivial), ?_, (by first | rfl | trivial)⟩
        · rw [f] at c
          exact (nI_ltI (by omega) (by omega)).mp c
        · rw [e]
          exact ixm
      · left
        simp only [if_neg c]
        exact ⟨(by first | rfl | trivial), (by first | rfl | trivial), (by first | rfl | trivial)⟩
theorem gp_cases {S : yS} {z t nd : Nat} (hn : nd ≤ 12) (ht : t < 2 ^ 20) (hp : 0 < t) (h0 : S 0 0 = nI t) (hk : ¬ S 2 z = 4) (hq : cO (S 4 z) nd) (h20 : ∀ d, d < nd → cO (S 20 d) 201) :
    ((m_rows S z (t - 1)).1 = -5 ∧ (m_rows S z (t - 1)).2 = (m_gap S z).2 ∧ (m_gap S z).1 = 0) ∨ ∃ d n, d < nd ∧ n < 201 ∧ t ≤ n ∧ S 4 z = nI d ∧ S 20 d = nI n ∧ (m_rows S z (t - 1)).1 = nI d ∧ (m_rows S z (t - 1)).2 = S ∧ m_gap S z = if m_sumL S d (t - ix (S 35 0)) (ix (S 35 0)) 0 = 0 then (0, m_found S 3 (nI z)) else ((nI t - S 35 0) / m_sumL S d (t - ix (S 35 0)) (ix (S 35 0)) 0, S) := by
  unfold m_rows m_gap
  rw [if_neg hk]
  rcases hq with e | ⟨d, hd, e⟩
  · left
    have a : S 4 z < 0 := by rw [e]; decide
    simp only [if_pos a]
    exact ⟨(by first | rfl | trivial), (by first | rfl | trivial), (by first | rfl | trivial)⟩
  · have a : ¬ S 4 z < 0 := by rw [e]; exact nI_pos (by omega)
    have a2 : ix (S 4 z) = d := by rw [e]; exact ix_nI (by omega)
    simp only [if_neg a, a2]
    rcases h20 d hd with f | ⟨n, hn2, f⟩
    · left
      have b : ¬ 0 ≤ S 20 d := by rw [f]; decide
      simp only [if_neg b]
      exact ⟨(by first | rfl | trivial), (by first | rfl | trivial), (by first | rfl | trivial)⟩
    · have b : 0 ≤ S 20 d := by rw [f]; exact nI_pos' (by omega)
      simp only [if_pos b, h0]
      have et : ix (nI t) = t := ix_nI (by omega)
      by_cases c : t ≤ n
      · right
        have c1 : nI t ≤ S 20 d := by rw [f]; exact nI_le c (by omega)
        have c2 : nI (t - 1) < S 20 d := by rw [f]; exact nI_lt (by omega) (by omega)
        simp only [if_pos c1, if_pos c2, et]
        exact ⟨d, n, hd, hn2, c, e, f, e, (by first | rfl | trivial), (by first | rfl | trivial)⟩
      · left
        have c1 : ¬ nI t ≤ S 20 d := by rw [f]; exact nI_ge (by omega) (by omega)
        have c2 : ¬ nI (t - 1) < S 20 d := by rw [f]; exact nI_nlt (by omega) (by omega)
        simp only [if_neg c1, if_neg c2]
        exact ⟨(by first | rfl | trivial), (by first | rfl | trivial), (by first | rfl | trivial)⟩
theorem hold_eq {S : yS} {k a : Nat} (hk : k < 4) : xHold S (nI k) (S 21 a) = m_holdK S (nI k) a := by
  rcases (by omega : k = 0 ∨ k = 1 ∨ k = 2 ∨ k = 3) with rfl | rfl | rfl | rfl
  · rfl
  · rfl
  · rfl
  · rfl
theorem asks_eq {S : yS} {k a : Nat} (hk : k < 4) : xAsk S (nI k) (S 21 a) (S 22 a) = m_asks S (nI k) a := by
  rcases (by omega : k = 0 ∨ k = 1 ∨ k = 2 ∨ k = 3) with rfl | rfl | rfl | rfl
  · rfl
  · rfl
  · rfl
  · rfl
theorem m_change_3 (S : yS) (p : Nat) (v : Int32) : m_change S p v 3 = upd (S 3) p v := by
  have q : m_chg1 (m_chg0 S p) p 3 = S 3 := by
    unfold m_chg1
    split
    · rw [mset_ne _ _ (by decide), m_gap_rw _ _ 3 (by decide)]
      unfold m_chg0
      rw [mset_ne _ _ (by decide)]
    · unfold m_chg0
      rw [mset_ne _ _ (by decide)]
  unfold m_change m_chg2
  rw [mset_ne _ _ (by decide), mset_row, q]
theorem m_change_5 (S : yS) (p : Nat) (v : Int32) : m_change S p v 5 = upd (S 5) p (S 5 p + 1) := by
  have q : m_chg1 (m_chg0 S p) p 5 = upd (S 5) p (S 5 p + 1) := by
    unfold m_chg1
    split
    · rw [mset_ne _ _ (by decide), m_gap_rw _ _ 5 (by decide)]
      unfold m_chg0
      rw [mset_row]
    · unfold m_chg0
      rw [mset_row]
  unfold m_change m_chg2
  rw [mset_ne _ _ (by decide), mset_ne _ _ (by decide), q]
/-- green lights are of no first second -/
def mG (S : yS) (np t : Nat) : Prop := ∀ p, p < np → S 3 p = 1 → 0 < t
theorem mG_change {S : yS} {np t z : Nat} {v : Int32} (h : mG S np t) (hv : v ≠ 1) : mG (m_change S z v) np t := by
  intro p hp e
  rw [m_change_3] at e
  by_cases c : p = z
  · subst c
    simp [upd] at e
    exact absurd e hv
  · simp [upd, c] at e
    exact h p hp e
theorem mG_row {S S' : yS} {np t : Nat} (h : mG S np t) (e : S' 3 = S 3) : mG S' np t := by
  intro p hp q
  rw [e] at q
  exact h p hp q
section X10
variable {D : va_G} {dA : Nat → ClassId} {t0 mi : Nat} {S : yS} {lf mc : Nat → Int32} {cap : Nat → Nat} {B : Nat → Nat → Nat} {N : Nat → Nat}
variable {t : Nat}
set_option maxHeartbeats 4000000 in
set_option maxRecDepth 100000 in
theorem xc_rowsUntil (z y : Nat) (hz : z < N 0) (hy : y < 2 ^ 20) (hB : mB S (N 0) (N 1) (N 2) (N 4) t) (h : yH) (hR : RX dA t0 (S) lf mc cap B N h) : yM (yZ t0 mi D dA) D yX8_rowsUntil cX8_rowsUntil 4 (some (.object "CrossingKeeper$Detector")) 1 0 0 [.ref (B 0 0), .ref (B 3 z), .int (nI y)] h (fun r h' => r = some (va_rf (xr (B 8) (m_rows S z y).1)) ∧ RX dA t0 ((m_rows S z y).2) lf mc cap B N h') := by
  refine yM_of (yZ_ok t0 mi D dA) (by decide) rfl (Nat.le_of_ble_eq_true rfl) ?_
  intro p l e s m args below meth c A C hr hin
  show yW p l e (yR 1 0 0) s m args below meth c 4 D A 0 0 _ 0 [some (.ref (B 0 0)), some (.ref (B 3 z)), some (.int (nI y)), none] [] h
  have n0 : S 1 0 = nI (N 0) ∧ N 0 ≤ 8 := hB 0
  have n1 : S 17 0 = nI (N 1) ∧ N 1 ≤ 6 := hB 1
  have n4 : S 29 0 = nI (N 4) ∧ N 4 ≤ 6 := hB 2
  have k3 : S 0 0 = nI t ∧ t < 2 ^ 20 ∧ N 2 ≤ 12 := hB 3
  have q5 : cO (S 4 z) (N 2) := (show ∀ p, p < N 0 → cO (S 4 p) (N 2) from hB 5) z hz
  refine yr_aload_n 1 C dX8_rowsUntil_0 rfl rfl rfl ?_
  refine yr_get 4 C dX8_rowsUntil_1 fl_X8_131 (rx3 hR hz) rfl rfl ?_
  rcases xr_cases (f := B 8) (by omega) q5 with ⟨g1, g2⟩ | ⟨d, hd, g1, g2⟩
  · rw [g2]
    refine yr_astore3 5 C dX8_rowsUntil_4 rfl (by decide) rfl ?_
    refine yr_aload_n 6 C dX8_rowsUntil_5 rfl rfl rfl ?_
    refine yr_ifnull_n 16 C dX8_rowsUntil_6 (by decide) ?_
    refine yr_aload_n 17 C dX8_rowsUntil_16 rfl rfl rfl ?_
    refine yr_get 20 C dX8_rowsUntil_17 fl_X8_31 (rx0 hR) rfl rfl ?_
    refine yr_iconst 21 C (1) dX8_rowsUntil_20 rfl rfl ?_
    refine yr_aload_n 22 C dX8_rowsUntil_21 rfl rfl rfl ?_
    refine yr_get 25 C dX8_rowsUntil_22 fl_X8_88 (rx3 hR hz) rfl rfl ?_
    refine yr_V2u 28 C (xc_add 1 (by decide) _ _ hR) dX8_rowsUntil_25 mt_X3_add mv_X3_add ml_X8_218 (rx13 hR) rfl (Nat.le_of_ble_eq_true rfl) (Nat.le_of_ble_eq_true rfl) (Nat.le_of_ble_eq_true rfl) (Nat.le_of_ble_eq_true rfl) (Nat.le_of_ble_eq_true rfl) rfl (fun h hR => ?_)
    refine yr_null 29 C dX8_rowsUntil_28 rfl ?_
    refine yr_aret C dX8_rowsUntil_29 hr (Or.inl ⟨_, rfl⟩) rfl (Nat.le_of_ble_eq_true rfl) (Nat.le_of_ble_eq_true rfl) ?_
    have em : m_rows S z y = (-5, m_found S 1 (nI z)) := by
      unfold m_rows
      rw [if_pos (by rw [g1]; decide)]
    rw [em]
    exact ⟨by simp only [xr_m5]; rfl, hR⟩
  · rw [g2]
    refine yr_astore3 5 C dX8_rowsUntil_4 rfl (by decide) rfl ?_
    refine yr_aload_n 6 C dX8_rowsUntil_5 rfl rfl rfl ?_
    refine yr_ifnull_r 9 C dX8_rowsUntil_6 rfl ?_
    refine yr_aload_n 10 C dX8_rowsUntil_9 rfl rfl rfl ?_
    refine yr_V0v 13 C (xc_isCutOff _ hd _ hR) dX8_rowsUntil_10 mt_X1_isCutOff mv_X1_isCutOff ml_X8_140 (hR.1 8 d hd) rfl (Nat.le_of_ble_eq_true rfl) (Nat.le_of_ble_eq_true rfl) (Nat.le_of_ble_eq_true rfl) (Nat.le_of_ble_eq_true rfl) (Nat.le_of_ble_eq_true rfl) rfl (fun h hR => ?_)
    refine yb_eq 30 16 C  dX8_rowsUntil_13 (by decide) rfl (fun c13 => ?_) (fun c13 => ?_)
    · have hc : ¬ S 20 d < 0 := of_decide_eq_false c13
      refine yr_aload_n 31 C dX8_rowsUntil_30 rfl rfl rfl ?_
      refine yr_iload_n 32 C dX8_rowsUntil_31 rfl rfl ?_
      refine yr_V1v 35 C (xc_reaches _ _ hd hy _ hR) dX8_rowsUntil_32 mt_X1_reaches mv_X1_reaches ml_X8_346 (hR.1 8 d hd) rfl (Nat.le_of_ble_eq_true rfl) (Nat.le_of_ble_eq_true rfl) (Nat.le_of_ble_eq_true rfl) (Nat.le_of_ble_eq_true rfl) (Nat.le_of_ble_eq_true rfl) rfl (fun h hR => ?_)
      refine yb_ne 52 38 C  dX8_rowsUntil_35 (by decide) rfl (fun c35 => ?_) (fun c35 => ?_)
      · refine yr_aload_n 53 C dX8_rowsUntil_52 rfl rfl rfl ?_
        refine yr_aret C dX8_rowsUntil_53 hr (Or.inl ⟨_, rfl⟩) rfl (Nat.le_of_ble_eq_true rfl) (Nat.le_of_ble_eq_true rfl) ?_
        have em : m_rows S z y = (nI d, S) := by
          unfold m_rows
          rw [g1, if_neg (nI_pos (by omega)), ix_nI (by omega), if_pos (Int32.not_lt.mp hc), if_pos (of_decide_eq_true c35)]
        rw [em]
        exact ⟨by simp only [xr_nI (show d < 2 ^ 31 by omega)], hR⟩
      · refine yr_aload_n 39 C dX8_rowsUntil_38 rfl rfl rfl ?_
        refine yr_get 42 C dX8_rowsUntil_39 fl_X8_31 (rx0 hR) rfl rfl ?_
        refine yr_iconst 43 C (2) dX8_rowsUntil_42 rfl rfl ?_
        refine yr_aload_n 44 C dX8_rowsUntil_43 rfl rfl rfl ?_
        refine yr_get 47 C dX8_rowsUntil_44 fl_X8_88 (rx3 hR hz) rfl rfl ?_
        refine yr_V2u 50 C (xc_add 2 (by decide) _ _ hR) dX8_rowsUntil_47 mt_X3_add mv_X3_add ml_X8_218 (rx13 hR) rfl (Nat.le_of_ble_eq_true rfl) (Nat.le_of_ble_eq_true rfl) (Nat.le_of_ble_eq_true rfl) (Nat.le_of_ble_eq_true rfl) (Nat.le_of_ble_eq_true rfl) rfl (fun h hR => ?_)
        refine yr_null 51 C dX8_rowsUntil_50 rfl ?_
        refine yr_aret C dX8_rowsUntil_51 hr (Or.inl ⟨_, rfl⟩) rfl (Nat.le_of_ble_eq_true rfl) (Nat.le_of_ble_eq_true rfl) ?_
        have em : m_rows S z y = (-5, m_found S 2 (nI z)) := by
          unfold m_rows
          rw [g1, if_neg (nI_pos (by omega)), ix_nI (by omega), if_pos (Int32.not_lt.mp hc), if_neg (of_decide_eq_false c35)]
        rw [em]
        exact ⟨by simp only [xr_m5]; rfl, hR⟩
    · refine yr_aload_n 17 C dX8_rowsUntil_16 rfl rfl rfl ?_
      refine yr_get 20 C dX8_rowsUntil_17 fl_X8_31 (rx0 hR) rfl rfl ?_
      refine yr_iconst 21 C (1) dX8_rowsUntil_20 rfl rfl ?_
      refine yr_aload_n 22 C dX8_rowsUntil_21 rfl rfl rfl ?_
      refine yr_get 25 C dX8_rowsUntil_22 fl_X8_88 (rx3 hR hz) rfl rfl ?_
      refine yr_V2u 28 C (xc_add 1 (by decide) _ _ hR) dX8_rowsUntil_25 mt_X3_add mv_X3_add ml_X8_218 (rx13 hR) rfl (Nat.le_of_ble_eq_true rfl) (Nat.le_of_ble_eq_true rfl) (Nat.le_of_ble_eq_true rfl) (Nat.le_of_ble_eq_true rfl) (Nat.le_of_ble_eq_true rfl) rfl (fun h hR => ?_)
      refine yr_null 29 C dX8_rowsUntil_28 rfl ?_
      refine yr_aret C dX8_rowsUntil_29 hr (Or.inl ⟨_, rfl⟩) rfl (Nat.le_of_ble_eq_true rfl) (Nat.le_of_ble_eq_true rfl) ?_
      have em : m_rows S z y = (-5, m_found S 1 (nI z)) := by
        unfold m_rows
        rw [g1, if_neg (nI_pos (by omega)), ix_nI (by omega), if_neg (Int32.not_le.mpr (of_decide_eq_true c13))]
      rw [em]
      exact ⟨by simp only [xr_m5]; rfl, hR⟩
set_option maxHeartbeats 4000000 in
set_option maxRecDepth 100000 in
theorem xc_holdsIn (z : Nat) (hz : z < N 0) (hB : mB S (N 0) (N 1) (N 2) (N 4) t) (h : yH) (hR : RX dA t0 (S) lf mc cap B N h) : yM (yZ t0 mi D dA) D yX8_holdsIn cX8_holdsIn 4 (some .boolean) 2 0 0 [.ref (B 0 0), .ref (B 3 z), .int (nI t)] h (fun r h' => r = some (.int (bI (m_doesHold S z).1)) ∧ RX dA t0 ((m_doesHold S z).2) lf mc cap B N h') := by
  refine yM_of (yZ_ok t0 mi D dA) (by decide) rfl (Nat.le_of_ble_eq_true rfl) ?_
  intro p l e s m args below meth c A C hr hin
  show yW p l e (yR 2 0 0) s m args below meth c 4 D A 0 0 _ 0 [some (.ref (B 0 0)), some (.ref (B 3 z)), some (.int (nI t)), none] [] h
  have n0 : S 1 0 = nI (N 0) ∧ N 0 ≤ 8 := hB 0
  have n1 : S 17 0 = nI (N 1) ∧ N 1 ≤ 6 := hB 1
  have n4 : S 29 0 = nI (N 4) ∧ N 4 ≤ 6 := hB 2
  have k3 : S 0 0 = nI t ∧ t < 2 ^ 20 ∧ N 2 ≤ 12 := hB 3
  have q5 : cO (S 4 z) (N 2) := (show ∀ p, p < N 0 → cO (S 4 p) (N 2) from hB 5) z hz
  have q6 : ∀ d, d < N 2 → cO (S 20 d) 201 := hB 6
  obtain ⟨k, hk, ek⟩ := (show ∀ p, p < N 0 → ∃ k, k ≤ 4 ∧ S 2 p = nI k from hB 4) z hz
  refine yr_aload_n 1 C dX8_holdsIn_0 rfl rfl rfl ?_
  refine yr_get 4 C dX8_holdsIn_1 fl_X8_220 (rx3 hR hz) rfl rfl ?_
  refine yr_iconst 5 C (4) dX8_holdsIn_4 rfl rfl ?_
  refine yr_icmp_ne 18 8 C  dX8_holdsIn_5 (by decide) rfl (fun c5 => ?_) (fun c5 => ?_)
  · have hk4 : k < 4 := by
      rcases (by omega : k < 4 ∨ k = 4) with q | q
      · exact q
      · exact absurd (by rw [ek, q]; rfl) c5
    refine yr_aload_n 19 C dX8_holdsIn_18 rfl rfl rfl ?_
    refine yr_aload_n 20 C dX8_holdsIn_19 rfl rfl rfl ?_
    refine yr_iload_n 21 C dX8_holdsIn_20 rfl rfl ?_
    refine yr_V2v 24 C (xc_rowsUntil _ _ hz k3.2.1 hB _ hR) dX8_holdsIn_21 mt_X8_rowsUntil mv_X8_rowsUntil ml_X8_333 (rx0 hR) rfl (Nat.le_of_ble_eq_true rfl) (Nat.le_of_ble_eq_true rfl) (Nat.le_of_ble_eq_true rfl) (Nat.le_of_ble_eq_true rfl) (Nat.le_of_ble_eq_true rfl) rfl (fun h hR => ?_)
    rcases ra_cases k3.2.2 k3.2.1 k3.1 q5 q6 with ⟨g1, g2, g3⟩ | ⟨d, n, hd, hn, htn, g4, g5, g1, g2, g3, g6⟩
    · rw [g1, xr_m5]
      rw [g2] at hR
      refine yr_astore3 25 C dX8_holdsIn_24 rfl (by decide) rfl ?_
      refine yr_aload_n 26 C dX8_holdsIn_25 rfl rfl rfl ?_
      refine yr_ifnull_n 48 C dX8_holdsIn_26 (by decide) ?_
      refine yr_iconst 49 C (1) dX8_holdsIn_48 rfl rfl ?_
      refine yr_goto 53 C dX8_holdsIn_49 (by decide) ?_
      refine yr_zret C dX8_holdsIn_53 hr ?_ (Nat.le_of_ble_eq_true rfl) (Nat.le_of_ble_eq_true rfl) ?_
      · first | exact bI_or _ | exact Or.inl rfl | exact Or.inr rfl
      have em : m_doesHold S z = (true, (m_readAt S z).2) := by
        unfold m_doesHold
        rw [if_neg c5, g3, if_neg (by decide)]
      rw [em]
      exact ⟨rfl, hR⟩
    · rw [g1, xr_nI (by omega)]
      rw [g2] at hR
      have i1 : nI t < S 20 d := by rw [g5]; exact nI_lt htn (by omega)
      have i2 : 0 ≤ nI (200 * d + t) := nI_pos' (by omega)
      have i3 : ix (nI (200 * d + t)) = 200 * d + t := ix_nI (by omega)
      refine yr_astore3 25 C dX8_holdsIn_24 rfl (by decide) rfl ?_
      refine yr_aload_n 26 C dX8_holdsIn_25 rfl rfl rfl ?_
      refine yr_ifnull_r 29 C dX8_holdsIn_26 rfl ?_
      refine yr_aload_n 30 C dX8_holdsIn_29 rfl rfl rfl ?_
      refine yr_get 33 C dX8_holdsIn_30 fl_X8_45 (rx0 hR) rfl rfl ?_
      refine yr_aload_n 34 C dX8_holdsIn_33 rfl rfl rfl ?_
      refine yr_get 37 C dX8_holdsIn_34 fl_X8_220 (rx3 hR hz) rfl rfl ?_
      refine yr_aload_n 38 C dX8_holdsIn_37 rfl rfl rfl ?_
      refine yr_iload_n 39 C dX8_holdsIn_38 rfl rfl ?_
      refine yr_V1v 42 C (xc_passingsAt _ _ hd k3.2.1 (q6 d hd) _ hR) dX8_holdsIn_39 mt_X1_passingsAt mv_X1_passingsAt ml_X8_337 (hR.1 8 d hd) rfl (Nat.le_of_ble_eq_true rfl) (Nat.le_of_ble_eq_true rfl) (Nat.le_of_ble_eq_true rfl) (Nat.le_of_ble_eq_true rfl) (Nat.le_of_ble_eq_true rfl) rfl (fun h hR => ?_)
      rw [if_pos i1]
      refine yr_V2v 45 C (xc_holdsOf _ _ _ hR) dX8_holdsIn_42 mt_X0_holdsOf mv_X0_holdsOf ml_X8_330 (rx16 hR) rfl (Nat.le_of_ble_eq_true rfl) (Nat.le_of_ble_eq_true rfl) (Nat.le_of_ble_eq_true rfl) (Nat.le_of_ble_eq_true rfl) (Nat.le_of_ble_eq_true rfl) rfl (fun h hR => ?_)
      refine yb_eq 52 48 C  dX8_holdsIn_45 (by decide) rfl (fun c45 => ?_) (fun c45 => ?_)
      · refine yr_iconst 53 C (0) dX8_holdsIn_52 rfl rfl ?_
        refine yr_zret C dX8_holdsIn_53 hr ?_ (Nat.le_of_ble_eq_true rfl) (Nat.le_of_ble_eq_true rfl) ?_
        · first | exact bI_or _ | exact Or.inl rfl | exact Or.inr rfl
        have em : m_doesHold S z = xHold S (nI k) (S 21 (200 * d + t)) := by
          unfold m_doesHold
          rw [if_neg c5, g3, if_pos i2, i3, ek, hold_eq hk4]
        rw [em]
        rw [ek] at c45 hR
        exact ⟨by rw [c45]; rfl, hR⟩
      · refine yr_iconst 49 C (1) dX8_holdsIn_48 rfl rfl ?_
        refine yr_goto 53 C dX8_holdsIn_49 (by decide) ?_
        refine yr_zret C dX8_holdsIn_53 hr ?_ (Nat.le_of_ble_eq_true rfl) (Nat.le_of_ble_eq_true rfl) ?_
        · first | exact bI_or _ | exact Or.inl rfl | exact Or.inr rfl
        have em : m_doesHold S z = xHold S (nI k) (S 21 (200 * d + t)) := by
          unfold m_doesHold
          rw [if_neg c5, g3, if_pos i2, i3, ek, hold_eq hk4]
        rw [em]
        rw [ek] at c45 hR
        exact ⟨by rw [c45]; rfl, hR⟩
  · refine yr_aload_n 9 C dX8_holdsIn_8 rfl rfl rfl ?_
    refine yr_get 12 C dX8_holdsIn_9 fl_X8_45 (rx0 hR) rfl rfl ?_
    refine yr_iconst 13 C (4) dX8_holdsIn_12 rfl rfl ?_
    refine yr_iconst 14 C (0) dX8_holdsIn_13 rfl rfl ?_
    refine yr_V2v 17 C (xc_holdsOf _ _ _ hR) dX8_holdsIn_14 mt_X0_holdsOf mv_X0_holdsOf ml_X8_330 (rx16 hR) rfl (Nat.le_of_ble_eq_true rfl) (Nat.le_of_ble_eq_true rfl) (Nat.le_of_ble_eq_true rfl) (Nat.le_of_ble_eq_true rfl) (Nat.le_of_ble_eq_true rfl) rfl (fun h hR => ?_)
    refine yr_zret C dX8_holdsIn_17 hr ?_ (Nat.le_of_ble_eq_true rfl) (Nat.le_of_ble_eq_true rfl) ?_
    · first | exact bI_or _ | exact Or.inl rfl | exact Or.inr rfl
    have em : m_doesHold S z = (true, m_tr S 5000) := by
      unfold m_doesHold
      rw [if_pos c5]
    rw [em]
    exact ⟨rfl, hR⟩
set_option maxHeartbeats 4000000 in
set_option maxRecDepth 100000 in
theorem xc_asksIn (z : Nat) (hz : z < N 0) (hk5 : ¬ S 2 z = 4) (hB : mB S (N 0) (N 1) (N 2) (N 4) t) (h : yH) (hR : RX dA t0 (S) lf mc cap B N h) : yM (yZ t0 mi D dA) D yX8_asksIn cX8_asksIn 4 (some .boolean) 3 0 0 [.ref (B 0 0), .ref (B 3 z), .int (nI t)] h (fun r h' => r = some (.int (bI (m_doesAsk S z).1)) ∧ RX dA t0 ((m_doesAsk S z).2) lf mc cap B N h') := by
  refine yM_of (yZ_ok t0 mi D dA) (by decide) rfl (Nat.le_of_ble_eq_true rfl) ?_
  intro p l e s m args below meth c A C hr hin
  show yW p l e (yR 3 0 0) s m args below meth c 4 D A 0 0 _ 0 [some (.ref (B 0 0)), some (.ref (B 3 z)), some (.int (nI t)), none] [] h
  have n0 : S 1 0 = nI (N 0) ∧ N 0 ≤ 8 := hB 0
  have n1 : S 17 0 = nI (N 1) ∧ N 1 ≤ 6 := hB 1
  have n4 : S 29 0 = nI (N 4) ∧ N 4 ≤ 6 := hB 2
  have k3 : S 0 0 = nI t ∧ t < 2 ^ 20 ∧ N 2 ≤ 12 := hB 3
  have q5 : cO (S 4 z) (N 2) := (show ∀ p, p < N 0 → cO (S 4 p) (N 2) from hB 5) z hz
  have q6 : ∀ d, d < N 2 → cO (S 20 d) 201 := hB 6
  obtain ⟨k, hk, ek⟩ := (show ∀ p, p < N 0 → ∃ k, k ≤ 4 ∧ S 2 p = nI k from hB 4) z hz
  have hk4 : k < 4 := by
    rcases (by omega : k < 4 ∨ k = 4) with q | q
    · exact q
    · exact absurd (by rw [ek, q]; rfl) hk5
  refine yr_aload_n 1 C dX8_asksIn_0 rfl rfl rfl ?_
  refine yr_aload_n 2 C dX8_asksIn_1 rfl rfl rfl ?_
  refine yr_iload_n 3 C dX8_asksIn_2 rfl rfl ?_
  refine yr_V2v 6 C (xc_rowsUntil _ _ hz k3.2.1 hB _ hR) dX8_asksIn_3 mt_X8_rowsUntil mv_X8_rowsUntil ml_X8_333 (rx0 hR) rfl (Nat.le_of_ble_eq_true rfl) (Nat.le_of_ble_eq_true rfl) (Nat.le_of_ble_eq_true rfl) (Nat.le_of_ble_eq_true rfl) (Nat.le_of_ble_eq_true rfl) rfl (fun h hR => ?_)
  rcases ra_cases k3.2.2 k3.2.1 k3.1 q5 q6 with ⟨g1, g2, g3⟩ | ⟨d, n, hd, hn, htn, g4, g5, g1, g2, g3, g6⟩
  · rw [g1, xr_m5]
    rw [g2] at hR
    refine yr_astore3 7 C dX8_asksIn_6 rfl (by decide) rfl ?_
    refine yr_aload_n 8 C dX8_asksIn_7 rfl rfl rfl ?_
    refine yr_ifnull_n 35 C dX8_asksIn_8 (by decide) ?_
    refine yr_iconst 36 C (1) dX8_asksIn_35 rfl rfl ?_
    refine yr_goto 40 C dX8_asksIn_36 (by decide) ?_
    refine yr_zret C dX8_asksIn_40 hr ?_ (Nat.le_of_ble_eq_true rfl) (Nat.le_of_ble_eq_true rfl) ?_
    · first | exact bI_or _ | exact Or.inl rfl | exact Or.inr rfl
    have em : m_doesAsk S z = (true, (m_readAt S z).2) := by
      unfold m_doesAsk
      rw [g3, if_neg (by decide)]
    rw [em]
    exact ⟨rfl, hR⟩
  · rw [g1, xr_nI (by omega)]
    rw [g2] at hR
    have i1 : nI t < S 20 d := by rw [g5]; exact nI_lt htn (by omega)
    have i2 : 0 ≤ nI (200 * d + t) := nI_pos' (by omega)
    have i3 : ix (nI (200 * d + t)) = 200 * d + t := ix_nI (by omega)
    refine yr_astore3 7 C dX8_asksIn_6 rfl (by decide) rfl ?_
    refine yr_aload_n 8 C dX8_asksIn_7 rfl rfl rfl ?_
    refine yr_ifnull_r 11 C dX8_asksIn_8 rfl ?_
    refine yr_aload_n 12 C dX8_asksIn_11 rfl rfl rfl ?_
    refine yr_get 15 C dX8_asksIn_12 fl_X8_45 (rx0 hR) rfl rfl ?_
    refine yr_aload_n 16 C dX8_asksIn_15 rfl rfl rfl ?_
    refine yr_get 19 C dX8_asksIn_16 fl_X8_220 (rx3 hR hz) rfl rfl ?_
    refine yr_aload_n 20 C dX8_asksIn_19 rfl rfl rfl ?_
    refine yr_iload_n 21 C dX8_asksIn_20 rfl rfl ?_
    refine yr_V1v 24 C (xc_passingsAt _ _ hd k3.2.1 (q6 d hd) _ hR) dX8_asksIn_21 mt_X1_passingsAt mv_X1_passingsAt ml_X8_337 (hR.1 8 d hd) rfl (Nat.le_of_ble_eq_true rfl) (Nat.le_of_ble_eq_true rfl) (Nat.le_of_ble_eq_true rfl) (Nat.le_of_ble_eq_true rfl) (Nat.le_of_ble_eq_true rfl) rfl (fun h hR => ?_)
    rw [if_pos i1]
    refine yr_aload_n 25 C dX8_asksIn_24 rfl rfl rfl ?_
    refine yr_iload_n 26 C dX8_asksIn_25 rfl rfl ?_
    refine yr_V1v 29 C (xc_occupiedAt _ _ hd k3.2.1 (q6 d hd) _ hR) dX8_asksIn_26 mt_X1_occupiedAt mv_X1_occupiedAt ml_X8_340 (hR.1 8 d hd) rfl (Nat.le_of_ble_eq_true rfl) (Nat.le_of_ble_eq_true rfl) (Nat.le_of_ble_eq_true rfl) (Nat.le_of_ble_eq_true rfl) (Nat.le_of_ble_eq_true rfl) rfl (fun h hR => ?_)
    rw [if_pos i1]
    refine yr_V3v 32 C (xc_asksOf _ _ _ _ hR) dX8_asksIn_29 mt_X0_asksOf mv_X0_asksOf ml_X8_343 (rx16 hR) rfl (Nat.le_of_ble_eq_true rfl) (Nat.le_of_ble_eq_true rfl) (Nat.le_of_ble_eq_true rfl) (Nat.le_of_ble_eq_true rfl) (Nat.le_of_ble_eq_true rfl) rfl (fun h hR => ?_)
    refine yb_eq 39 35 C  dX8_asksIn_32 (by decide) rfl (fun c32 => ?_) (fun c32 => ?_)
    · refine yr_iconst 40 C (0) dX8_asksIn_39 rfl rfl ?_
      refine yr_zret C dX8_asksIn_40 hr ?_ (Nat.le_of_ble_eq_true rfl) (Nat.le_of_ble_eq_true rfl) ?_
      · first | exact bI_or _ | exact Or.inl rfl | exact Or.inr rfl
      have em : m_doesAsk S z = xAsk S (nI k) (S 21 (200 * d + t)) (S 22 (200 * d + t)) := by
        unfold m_doesAsk
        rw [g3, if_pos i2, i3, ek, asks_eq hk4]
      rw [em]
      rw [ek] at c32 hR
      exact ⟨by rw [c32]; rfl, hR⟩
    · refine yr_iconst 36 C (1) dX8_asksIn_35 rfl rfl ?_
      refine yr_goto 40 C dX8_asksIn_36 (by decide) ?_
      refine yr_zret C dX8_asksIn_40 hr ?_ (Nat.le_of_ble_eq_true rfl) (Nat.le_of_ble_eq_true rfl) ?_
      · first | exact bI_or _ | exact Or.inl rfl | exact Or.inr rfl
      have em : m_doesAsk S z = xAsk S (nI k) (S 21 (200 * d + t)) (S 22 (200 * d + t)) := by
        unfold m_doesAsk
        rw [g3, if_pos i2, i3, ek, asks_eq hk4]
      rw [em]
      rw [ek] at c32 hR
      exact ⟨by rw [c32]; rfl, hR⟩
set_option maxHeartbeats 4000000 in
set_option maxRecDepth 100000 in
theorem xc_gapOf (z : Nat) (hz : z < N 0) (ht0 : 0 < t) (hB : mB S (N 0) (N 1) (N 2) (N 4) t) (h : yH) (hR : RX dA t0 (S) lf mc cap B N h) : yM (yZ t0 mi D dA) D yX8_gapOf cX8_gapOf 6 (some .int) 2 0 0 [.ref (B 0 0), .ref (B 3 z), .int (nI t)] h (fun r h' => r = some (.int (m_gap S z).1) ∧ RX dA t0 ((m_gap S z).2) lf mc cap B N h') := by
  refine yM_of (yZ_ok t0 mi D dA) (by decide) rfl (Nat.le_of_ble_eq_true rfl) ?_
  intro p l e s m args below meth c A C hr hin
  show yW p l e (yR 2 0 0) s m args below meth c 6 D A 0 0 _ 0 [some (.ref (B 0 0)), some (.ref (B 3 z)), some (.int (nI t)), none, none, none] [] h
  have n0 : S 1 0 = nI (N 0) ∧ N 0 ≤ 8 := hB 0
  have n1 : S 17 0 = nI (N 1) ∧ N 1 ≤ 6 := hB 1
  have n4 : S 29 0 = nI (N 4) ∧ N 4 ≤ 6 := hB 2
  have k3 : S 0 0 = nI t ∧ t < 2 ^ 20 ∧ N 2 ≤ 12 := hB 3
  have q5 : cO (S 4 z) (N 2) := (show ∀ p, p < N 0 → cO (S 4 p) (N 2) from hB 5) z hz
  have q6 : ∀ d, d < N 2 → cO (S 20 d) 201 := hB 6
  obtain ⟨k, hk, ek⟩ := (show ∀ p, p < N 0 → ∃ k, k ≤ 4 ∧ S 2 p = nI k from hB 4) z hz
  obtain ⟨b, hb, eb⟩ := (show ∃ b, b ≤ t ∧ S 35 0 = nI b from hB 9)
  have e35 : ix (S 35 0) = b := by rw [eb]; exact ix_nI (by omega)
  refine yr_aload_n 1 C dX8_gapOf_0 rfl rfl rfl ?_
  refine yr_get 4 C dX8_gapOf_1 fl_X8_220 (rx3 hR hz) rfl rfl ?_
  refine yr_iconst 5 C (4) dX8_gapOf_4 rfl rfl ?_
  refine yr_icmp_ne 10 8 C  dX8_gapOf_5 (by decide) rfl (fun c5 => ?_) (fun c5 => ?_)
  · refine yr_aload_n 11 C dX8_gapOf_10 rfl rfl rfl ?_
    refine yr_aload_n 12 C dX8_gapOf_11 rfl rfl rfl ?_
    refine yr_iload_n 13 C dX8_gapOf_12 rfl rfl ?_
    refine yr_iconst 14 C (1) dX8_gapOf_13 rfl rfl ?_
    refine yr_isub 15 C dX8_gapOf_14 rfl ?_
    rw [show nI t - 1 = nI (t - 1) from by rw [show (1 : Int32) = nI 1 from rfl, pk_sub (by omega)]]
    refine yr_V2v 18 C (xc_rowsUntil _ _ hz (by omega) hB _ hR) dX8_gapOf_15 mt_X8_rowsUntil mv_X8_rowsUntil ml_X8_333 (rx0 hR) rfl (Nat.le_of_ble_eq_true rfl) (Nat.le_of_ble_eq_true rfl) (Nat.le_of_ble_eq_true rfl) (Nat.le_of_ble_eq_true rfl) (Nat.le_of_ble_eq_true rfl) rfl (fun h hR => ?_)
    rcases gp_cases k3.2.2 k3.2.1 ht0 k3.1 c5 q5 q6 with ⟨g1, g2, g3⟩ | ⟨d, n, hd, hn, htn, g4, g5, g1, g2, g6⟩
    · rw [g1, xr_m5]
      rw [g2] at hR
      refine yr_astore3 19 C dX8_gapOf_18 rfl (by decide) rfl ?_
      refine yr_aload_n 20 C dX8_gapOf_19 rfl rfl rfl ?_
      refine yr_ifnonnull_n 23 C dX8_gapOf_20 rfl ?_
      refine yr_iconst 24 C (0) dX8_gapOf_23 rfl rfl ?_
      refine yr_iret C dX8_gapOf_24 hr (Nat.le_of_ble_eq_true rfl) (Nat.le_of_ble_eq_true rfl) ?_
      exact ⟨by rw [g3], hR⟩
    · rw [g1, xr_nI (by omega)]
      rw [g2] at hR
      rw [e35] at g6
      refine yr_astore3 19 C dX8_gapOf_18 rfl (by decide) rfl ?_
      refine yr_aload_n 20 C dX8_gapOf_19 rfl rfl rfl ?_
      refine yr_ifnonnull_r 25 C dX8_gapOf_20 (by decide) ?_
      refine yr_iconst 26 C (0) dX8_gapOf_25 rfl rfl ?_
      refine yr_istore4 28 C dX8_gapOf_26 (by decide) rfl ?_
      refine yr_aload_n 29 C dX8_gapOf_28 rfl rfl rfl ?_
      refine yr_get 32 C dX8_gapOf_29 fl_X8_60 (rx0 hR) rfl rfl ?_
      rw [eb]
      refine yr_istore5 34 C dX8_gapOf_32 (by decide) rfl ?_
      have loop34 : ∀ (j i : Nat) (x : Int32), i + j = t → m_sumL S d j i x = m_sumL S d (t - b) b 0 → ∀ h : yH, RX dA t0 (S) lf mc cap B N h → yW p l e (yR 2 0 0) s m args below meth c 6 D A 0 0 (yF D A (fun r h' => r = some (.int (m_gap S z).1) ∧ RX dA t0 ((m_gap S z).2) lf mc cap B N h') below args s 0 0) 34 [some (.ref (B 0 0)), some (.ref (B 3 z)), some (.int (nI t)), some (.ref (B 8 d)), some (.int x), some (.int (nI i))] [] h := by
        intro j
        induction j with
        | zero =>
          intro i x hij he h hR
          refine yr_iload 36 C dX8_gapOf_34 rfl rfl ?_
          refine yr_iload_n 37 C dX8_gapOf_36 rfl rfl ?_
          refine yr_icmp_ge 57 40 C  dX8_gapOf_37 (by decide) rfl (fun c37 => ?_) (fun c37 => ?_)
          rotate_left
          · exact absurd (nI_le (by omega) (by omega)) c37
          refine yr_iload 59 C dX8_gapOf_57 rfl rfl ?_
          refine yr_if_ne 76 62 C  dX8_gapOf_59 (by decide) rfl (fun c59 => ?_) (fun c59 => ?_)
          · refine yr_iload_n 77 C dX8_gapOf_76 rfl rfl ?_
            refine yr_aload_n 78 C dX8_gapOf_77 rfl rfl rfl ?_
            refine yr_get 81 C dX8_gapOf_78 fl_X8_60 (rx0 hR) rfl rfl ?_
            refine yr_isub 82 C dX8_gapOf_81 rfl ?_
            refine yr_iload 84 C dX8_gapOf_82 rfl rfl ?_
            refine yr_idiv 85 C dX8_gapOf_84 ?_ rfl ?_
            · exact c59
            refine yr_iret C dX8_gapOf_85 hr (Nat.le_of_ble_eq_true rfl) (Nat.le_of_ble_eq_true rfl) ?_
            have he2 : x = m_sumL S d (t - b) b 0 := he
            rw [← he2, if_neg c59] at g6
            rw [g6]
            exact ⟨rfl, hR⟩
          · refine yr_aload_n 63 C dX8_gapOf_62 rfl rfl rfl ?_
            refine yr_get 66 C dX8_gapOf_63 fl_X8_31 (rx0 hR) rfl rfl ?_
            refine yr_iconst 67 C (3) dX8_gapOf_66 rfl rfl ?_
            refine yr_aload_n 68 C dX8_gapOf_67 rfl rfl rfl ?_
            refine yr_get 71 C dX8_gapOf_68 fl_X8_88 (rx3 hR hz) rfl rfl ?_
            refine yr_V2u 74 C (xc_add 3 (by decide) _ _ hR) dX8_gapOf_71 mt_X3_add mv_X3_add ml_X8_218 (rx13 hR) rfl (Nat.le_of_ble_eq_true rfl) (Nat.le_of_ble_eq_true rfl) (Nat.le_of_ble_eq_true rfl) (Nat.le_of_ble_eq_true rfl) (Nat.le_of_ble_eq_true rfl) rfl (fun h hR => ?_)
            refine yr_iconst 75 C (0) dX8_gapOf_74 rfl rfl ?_
            refine yr_iret C dX8_gapOf_75 hr (Nat.le_of_ble_eq_true rfl) (Nat.le_of_ble_eq_true rfl) ?_
            have he2 : x = m_sumL S d (t - b) b 0 := he
            rw [← he2, if_pos c59] at g6
            rw [g6]
            exact ⟨rfl, hR⟩
        | succ j ih =>
          intro i x hij he h hR
          refine yr_iload 36 C dX8_gapOf_34 rfl rfl ?_
          refine yr_iload_n 37 C dX8_gapOf_36 rfl rfl ?_
          refine yr_icmp_ge 57 40 C  dX8_gapOf_37 (by decide) rfl (fun c37 => ?_) (fun c37 => ?_)
          · exact absurd c37 (nI_ge (by omega) (by omega))
          refine yr_iload 42 C dX8_gapOf_40 rfl rfl ?_
          refine yr_aload_n 43 C dX8_gapOf_42 rfl rfl rfl ?_
          refine yr_iload 45 C dX8_gapOf_43 rfl rfl ?_
          refine yr_V1v 48 C (xc_passingsAt _ _ hd (by omega) (q6 d hd) _ hR) dX8_gapOf_45 mt_X1_passingsAt mv_X1_passingsAt ml_X8_337 (hR.1 8 d hd) rfl (Nat.le_of_ble_eq_true rfl) (Nat.le_of_ble_eq_true rfl) (Nat.le_of_ble_eq_true rfl) (Nat.le_of_ble_eq_true rfl) (Nat.le_of_ble_eq_true rfl) rfl (fun h hR => ?_)
          rw [if_pos (show nI i < S 20 d by rw [g5]; exact nI_lt (by omega) (by omega))]
          refine yr_iadd 49 C dX8_gapOf_48 rfl ?_
          refine yr_istore4 51 C dX8_gapOf_49 (by decide) rfl ?_
          refine yr_iinc5 54 C (1) dX8_gapOf_51 rfl (by decide) rfl ?_
          rw [nI_1]
          refine yr_goto 34 C dX8_gapOf_54 (by decide) ?_
          exact ih (i + 1) _ (by omega) he h hR
      exact loop34 (t - b) b 0 (by omega) rfl h hR
  · refine yr_iconst 9 C (0) dX8_gapOf_8 rfl rfl ?_
    refine yr_iret C dX8_gapOf_9 hr (Nat.le_of_ble_eq_true rfl) (Nat.le_of_ble_eq_true rfl) ?_
    have em : m_gap S z = (0, S) := by
      unfold m_gap
      rw [if_pos c5]
    rw [em]
    exact ⟨rfl, hR⟩
set_option maxHeartbeats 4000000 in
set_option maxRecDepth 100000 in
theorem xc_changeLight (z : Nat) (hz : z < N 0) (v : Int32) (hlf : lf = S 5) (hg : S 3 z = 1 → 0 < t) (hB : mB S (N 0) (N 1) (N 2) (N 4) t) (h : yH) (hR : RX dA t0 (S) lf mc cap B N h) : yM (yZ t0 mi D dA) D yX8_changeLight cX8_changeLight 4 none 3 0 0 [.ref (B 0 0), .ref (B 3 z), .int v, .int (nI t)] h (fun r h' => r = none ∧ RX dA t0 (m_change S z v) (m_change S z v 5) mc cap B N h') := by
  refine yM_of (yZ_ok t0 mi D dA) (by decide) rfl (Nat.le_of_ble_eq_true rfl) ?_
  intro p l e s m args below meth c A C hr hin
  show yW p l e (yR 3 0 0) s m args below meth c 4 D A 0 0 _ 0 [some (.ref (B 0 0)), some (.ref (B 3 z)), some (.int v), some (.int (nI t))] [] h
  have n0 : S 1 0 = nI (N 0) ∧ N 0 ≤ 8 := hB 0
  have n1 : S 17 0 = nI (N 1) ∧ N 1 ≤ 6 := hB 1
  have n4 : S 29 0 = nI (N 4) ∧ N 4 ≤ 6 := hB 2
  have k3 : S 0 0 = nI t ∧ t < 2 ^ 20 ∧ N 2 ≤ 12 := hB 3
  refine yr_aload_n 1 C dX8_changeLight_0 rfl rfl rfl ?_
  refine yr_dup 2 C dX8_changeLight_1 rfl rfl ?_
  refine yr_get 5 C dX8_changeLight_2 fl_X8_223 (rx3 hR hz) rfl rfl ?_
  refine yr_iconst 6 C (1) dX8_changeLight_5 rfl rfl ?_
  refine yr_iadd 7 C dX8_changeLight_6 rfl ?_
  refine xx_put 10 C dX8_changeLight_7 fp_X8_223 (rx3 hR hz) (Nat.le_of_ble_eq_true rfl) rfl rfl (ru3_16 hR hz _) rfl (fun h hR => ?_)
  replace hR : RX dA t0 (m_chg0 S z) lf mc cap B N h := hR
  refine yr_aload_n 11 C dX8_changeLight_10 rfl rfl rfl ?_
  refine yr_get 14 C dX8_changeLight_11 fl_X8_169 (rx3 hR hz) rfl rfl ?_
  refine yr_iconst 15 C (1) dX8_changeLight_14 rfl rfl ?_
  refine yr_icmp_ne 28 18 C  dX8_changeLight_15 (by decide) rfl (fun c15 => ?_) (fun c15 => ?_)
  · refine yr_aload_n 29 C dX8_changeLight_28 rfl rfl rfl ?_
    refine yr_iload_n 30 C dX8_changeLight_29 rfl rfl ?_
    refine xx_put 33 C dX8_changeLight_30 fp_X8_169 (rx3 hR hz) (Nat.le_of_ble_eq_true rfl) rfl rfl (ru3_6 hR hz _) rfl (fun h hR => ?_)
    refine yr_aload_n 34 C dX8_changeLight_33 rfl rfl rfl ?_
    refine yr_dup 35 C dX8_changeLight_34 rfl rfl ?_
    refine yr_get 38 C dX8_changeLight_35 fl_X8_53 (rx0 hR) rfl rfl ?_
    refine yr_iconst 39 C (1) dX8_changeLight_38 rfl rfl ?_
    refine yr_iadd 40 C dX8_changeLight_39 rfl ?_
    refine xx_put 43 C dX8_changeLight_40 fp_X8_53 (rx0 hR) (Nat.le_of_ble_eq_true rfl) rfl rfl (ru0_9 hR _) rfl (fun h hR => ?_)
    refine yr_aload_n 44 C dX8_changeLight_43 rfl rfl rfl ?_
    refine yr_dup 45 C dX8_changeLight_44 rfl rfl ?_
    refine yr_get 48 C dX8_changeLight_45 fl_X8_226 (rx3 hR hz) rfl rfl ?_
    refine yr_iconst 49 C (1) dX8_changeLight_48 rfl rfl ?_
    refine yr_iadd 50 C dX8_changeLight_49 rfl ?_
    refine xx_put 53 C dX8_changeLight_50 fp_X8_226 (rx3 hR hz) (Nat.le_of_ble_eq_true rfl) rfl rfl (ru3_17 hR hz _) rfl (fun h hR => ?_)
    refine yr_vret C dX8_changeLight_53 hr (Nat.le_of_ble_eq_true rfl) (Nat.le_of_ble_eq_true rfl) ?_
    have e5 : va_up lf z (lf z + 1) = m_change S z v 5 := by rw [hlf, m_change_5]; rfl
    rw [e5] at hR
    refine ⟨rfl, ?_⟩
    have em : m_change S z v = mset (mset (m_chg0 S z) 3 z v) 49 0 ((m_chg0 S z) 49 0 + 1) := by
      unfold m_change m_chg2
      rw [show m_chg1 (m_chg0 S z) z = m_chg0 S z from by unfold m_chg1; exact if_neg c15]
    rw [em] at hR ⊢
    simp only [mset_ne _ _ (show (49 : Nat) ≠ 3 by decide)] at hR
    exact hR
  · refine yr_aload_n 19 C dX8_changeLight_18 rfl rfl rfl ?_
    refine yr_aload_n 20 C dX8_changeLight_19 rfl rfl rfl ?_
    refine yr_aload_n 21 C dX8_changeLight_20 rfl rfl rfl ?_
    refine yr_iload_n 22 C dX8_changeLight_21 rfl rfl ?_
    refine yr_V2v 25 C (xc_gapOf _ hz (hg (by have c16 := c15; unfold m_chg0 at c16; rw [mset_ne _ _ (by decide)] at c16; exact c16)) (mB_fr hB (mFr_set S z _ (show mFk 5 = true from rfl))) _ hR) dX8_changeLight_22 mt_X8_gapOf mv_X8_gapOf ml_X8_376 (rx0 hR) rfl (Nat.le_of_ble_eq_true rfl) (Nat.le_of_ble_eq_true rfl) (Nat.le_of_ble_eq_true rfl) (Nat.le_of_ble_eq_true rfl) (Nat.le_of_ble_eq_true rfl) rfl (fun h hR => ?_)
    refine xx_put 28 C dX8_changeLight_25 fp_X8_229 (rx3 hR hz) (Nat.le_of_ble_eq_true rfl) rfl rfl (ru3_14 hR hz _) rfl (fun h hR => ?_)
    refine yr_aload_n 29 C dX8_changeLight_28 rfl rfl rfl ?_
    refine yr_iload_n 30 C dX8_changeLight_29 rfl rfl ?_
    refine xx_put 33 C dX8_changeLight_30 fp_X8_169 (rx3 hR hz) (Nat.le_of_ble_eq_true rfl) rfl rfl (ru3_6 hR hz _) rfl (fun h hR => ?_)
    refine yr_aload_n 34 C dX8_changeLight_33 rfl rfl rfl ?_
    refine yr_dup 35 C dX8_changeLight_34 rfl rfl ?_
    refine yr_get 38 C dX8_changeLight_35 fl_X8_53 (rx0 hR) rfl rfl ?_
    refine yr_iconst 39 C (1) dX8_changeLight_38 rfl rfl ?_
    refine yr_iadd 40 C dX8_changeLight_39 rfl ?_
    refine xx_put 43 C dX8_changeLight_40 fp_X8_53 (rx0 hR) (Nat.le_of_ble_eq_true rfl) rfl rfl (ru0_9 hR _) rfl (fun h hR => ?_)
    refine yr_aload_n 44 C dX8_changeLight_43 rfl rfl rfl ?_
    refine yr_dup 45 C dX8_changeLight_44 rfl rfl ?_
    refine yr_get 48 C dX8_changeLight_45 fl_X8_226 (rx3 hR hz) rfl rfl ?_
    refine yr_iconst 49 C (1) dX8_changeLight_48 rfl rfl ?_
    refine yr_iadd 50 C dX8_changeLight_49 rfl ?_
    refine xx_put 53 C dX8_changeLight_50 fp_X8_226 (rx3 hR hz) (Nat.le_of_ble_eq_true rfl) rfl rfl (ru3_17 hR hz _) rfl (fun h hR => ?_)
    refine yr_vret C dX8_changeLight_53 hr (Nat.le_of_ble_eq_true rfl) (Nat.le_of_ble_eq_true rfl) ?_
    have e5 : va_up lf z (lf z + 1) = m_change S z v 5 := by rw [hlf, m_change_5]; rfl
    rw [e5] at hR
    refine ⟨rfl, ?_⟩
    have em : m_change S z v = mset (mset (mset (m_gap (m_chg0 S z) z).2 6 z (m_gap (m_chg0 S z) z).1) 3 z v) 49 0 ((mset (m_gap (m_chg0 S z) z).2 6 z (m_gap (m_chg0 S z) z).1) 49 0 + 1) := by
      unfold m_change m_chg2
      rw [show m_chg1 (m_chg0 S z) z = mset (m_gap (m_chg0 S z) z).2 6 z (m_gap (m_chg0 S z) z).1 from by unfold m_chg1; exact if_pos c15]
    rw [em] at hR ⊢
    simp only [mset_ne _ _ (show (49 : Nat) ≠ 3 by decide)] at hR
    exact hR
end X10
