/-! the invariant, kept by every call -/
theorem cO_mono {x : Int32} {b b' : Nat} (h : cO x b) (hb : b ≤ b') : cO x b' := by
  rcases h with e | ⟨j, hj, e⟩
  · exact Or.inl e
  · exact Or.inr ⟨j, by omega, e⟩
theorem nI_inj {a b : Nat} (ha : a < 2 ^ 31) (hb : b < 2 ^ 31) (h : nI a = nI b) : a = b := (nI_eq ha hb).mp h
/-- clause 29 -/
theorem j29_of {S S' : yS} {np ns nd no nr t ns' nd' no' nr' t' : Nat} (h : mJ S np ns nd no nr t 29) (hk : ∀ p, np ≤ p → p < 8 → ∀ k, 3 ≤ k → k ≤ 15 → S' k p = S k p) : mJ S' np ns' nd' no' nr' t' 29 := by
  simp only [mJ] at h ⊢
  intro p h1 h2
  have q := h p h1 h2
  rw [hk p h1 h2 3 (by decide) (by decide), hk p h1 h2 4 (by decide) (by decide), hk p h1 h2 5 (by decide) (by decide), hk p h1 h2 6 (by decide) (by decide), hk p h1 h2 7 (by decide) (by decide), hk p h1 h2 8 (by decide) (by decide), hk p h1 h2 9 (by decide) (by decide), hk p h1 h2 10 (by decide) (by decide), hk p h1 h2 11 (by decide) (by decide), hk p h1 h2 12 (by decide) (by decide), hk p h1 h2 13 (by decide) (by decide), hk p h1 h2 14 (by decide) (by decide), hk p h1 h2 15 (by decide) (by decide)]
  exact q
/-- nothing of the phases that are not there yet has changed -/
def mOut (np : Nat) (S S' : yS) : Prop := ∀ p, np ≤ p → p < 8 → ∀ k, k ≤ 15 → S' k p = S k p
theorem mOut_rf {np : Nat} (S : yS) : mOut np S S := fun _ _ _ _ _ => rfl
theorem mOut_tr {np : Nat} {S S' S'' : yS} (h : mOut np S S') (h' : mOut np S' S'') : mOut np S S'' := fun p a b k c => (h' p a b k c).trans (h p a b k c)
theorem mOut_set {np : Nat} (S : yS) {k j : Nat} (v : Int32) (hj : j < np ∨ 15 < k) : mOut np S (mset S k j v) := by
  intro p h1 h2 r hr
  by_cases c : r = k
  · subst c
    rw [mset_at, if_neg (by omega)]
  · rw [mset_ne _ _ c]
theorem j29_out {S S' : yS} {np ns nd no nr t ns' nd' no' nr' t' : Nat} (h : mJ S np ns nd no nr t 29) (hk : mOut np S S') : mJ S' np ns' nd' no' nr' t' 29 := j29_of h (fun p h1 h2 k _ h4 => hk p h1 h2 k h4)
theorem mOut_found {np : Nat} (S : yS) (a : Nat) (p : Int32) : mOut np S (m_found S a p) := mOut_tr (mOut_tr (mOut_set S _ (Or.inr (by decide))) (mOut_set _ _ (Or.inr (by decide)))) (mOut_set _ _ (Or.inr (by decide)))
theorem mOut_rw {np : Nat} {l : List Nat} {S S' : yS} (h : mRw l S S') (hl : ∀ k, k ≤ 15 → k ∉ l) : mOut np S S' := fun p _ _ k hk => by rw [h k (hl k hk)]
theorem l15 {l : List Nat} (h : l.all (fun k => decide (15 < k)) = true) : ∀ k, k ≤ 15 → k ∉ l := fun k hk q => by
  have := List.all_eq_true.mp h k q
  simp at this
  omega
theorem mOut_change {np z : Nat} (S : yS) (v : Int32) (hz : z < np) : mOut np S (m_change S z v) := by
  unfold m_change m_chg2
  refine mOut_tr ?_ (mOut_set _ _ (Or.inr (by decide)))
  refine mOut_tr ?_ (mOut_set _ _ (Or.inl hz))
  unfold m_chg1
  split
  · refine mOut_tr ?_ (mOut_set _ _ (Or.inl hz))
    exact mOut_tr (mOut_set S _ (Or.inl hz)) (mOut_rw (m_gap_rw _ z) (l15 rfl))
  · exact mOut_set S _ (Or.inl hz)
theorem mOut_free {np z q : Nat} (S : yS) (u : Int32) (hq : q < np) : mOut np S (m_free S z q u) := by
  unfold m_free
  repeat' split
  all_goals first | exact mOut_rf S | exact mOut_set S _ (Or.inl hq)
theorem mOut_endL {np z : Nat} {u : Int32} : ∀ (j i : Nat) (S : yS), i + j = np → mOut np S (m_endL z u j i S)
  | 0, _, S, _ => mOut_rf S
  | j + 1, i, S, h => mOut_tr (mOut_free S u (by omega)) (mOut_endL j (i + 1) _ (by omega))
theorem mOut_endsIn {np z : Nat} (S : yS) (u : Int32) (hz : z < np) : mOut np S (m_endsIn S np z u) := mOut_tr (mOut_set S _ (Or.inl hz)) (mOut_endL np 0 _ (by omega))
theorem mOut_allL {np : Nat} (v : Int32) : ∀ (j i : Nat) (S : yS), i + j = np → mOut np S (m_allL v j i S)
  | 0, _, S, _ => mOut_rf S
  | j + 1, i, S, h => mOut_tr (mOut_change S v (by omega)) (mOut_allL v j (i + 1) _ (by omega))
theorem mOut_am {np i : Nat} (S : yS) (hi : i < np) : mOut np S (m_am S i) := by
  unfold m_am
  repeat' split
  all_goals first | exact mOut_rf S | exact mOut_change S _ hi
theorem mOut_amL {np : Nat} : ∀ (j i : Nat) (S : yS), i + j = np → mOut np S (m_amL j i S)
  | 0, _, S, _ => mOut_rf S
  | j + 1, i, S, h => mOut_tr (mOut_am S (by omega)) (mOut_amL j (i + 1) _ (by omega))
theorem mOut_mfL {np : Nat} : ∀ (j i : Nat) (S : yS), i + j = np → mOut np S (m_mfL np j i S)
  | 0, _, S, _ => mOut_rf S
  | j + 1, i, S, h => by
    refine mOut_tr ?_ (mOut_mfL j (i + 1) _ (by omega))
    unfold m_mfS
    split
    · exact mOut_tr (mOut_change S _ (by omega)) (mOut_endsIn _ _ (by omega))
    · exact mOut_rf S
theorem mOut_rd {np i : Nat} (S : yS) (hi : i < np) : mOut np S (m_rd S i) := by
  have r1 : mOut np S (m_doesHold S i).2 := mOut_rw (m_doesHold_rw S i) (l15 rfl)
  have r2 : mOut np S (m_doesAsk S i).2 := mOut_rw (m_doesAsk_rw S i) (l15 rfl)
  unfold m_rd
  repeat' split
  · exact mOut_tr r1 (mOut_set _ _ (Or.inl hi))
  · exact mOut_rf S
  · exact mOut_rf S
  · exact mOut_tr r2 (mOut_set _ _ (Or.inl hi))
  · exact r2
theorem mOut_rdL {np : Nat} : ∀ (j i : Nat) (S : yS), i + j = np → mOut np S (m_rdL j i S)
  | 0, _, S, _ => mOut_rf S
  | j + 1, i, S, h => mOut_tr (mOut_rd S (by omega)) (mOut_rdL j (i + 1) _ (by omega))
theorem mOut_peL {np g ns : Nat} (hn : np ≤ 8) (hg : g < ns) : ∀ (j i : Nat) (S : yS), (∀ s, s < ns → ∀ k, k < 4 → cO (S 18 (4 * s + k)) np) → i + j = 4 → mOut np S (m_peL np g j i S)
  | 0, _, S, _, _ => mOut_rf S
  | j + 1, i, S, hB, h => by
    refine mOut_tr ?_ (mOut_peL hn hg j (i + 1) _ (by rw [m_peS_rw np g S i 18 (by decide)]; exact hB) (by omega))
    unfold m_peS
    split
    · exact mOut_rf S
    · rename_i c
      have hz : ix (S 18 (4 * g + i)) < np := by
        rcases hB g hg i (by omega) with e | ⟨z, hz, e⟩
        · rw [e] at c
          exact absurd (by decide) c
        · rw [e, ix_nI (by omega)]
          exact hz
      exact mOut_tr (mOut_change S _ hz) (mOut_endsIn _ _ hz)
theorem mOut_pbS {np g ns i : Nat} (hn : np ≤ 8) (hg : g < ns) (hi : i < 4) (S : yS) (hB : ∀ s, s < ns → ∀ k, k < 4 → cO (S 18 (4 * s + k)) np) : mOut np S (m_pbS g S i) := by
  unfold m_pbS
  split
  · exact mOut_rf S
  · rename_i c
    have hz : ix (S 18 (4 * g + i)) < np := by
      rcases hB g hg i hi with e | ⟨z, hz, e⟩
      · rw [e] at c
        exact absurd (by decide) c
      · rw [e, ix_nI (by omega)]
        exact hz
    exact mOut_tr (mOut_tr (mOut_change S _ hz) (mOut_set _ _ (Or.inl hz))) (mOut_set _ _ (Or.inl hz))
theorem mOut_pbL {np g ns : Nat} (hn : np ≤ 8) (hg : g < ns) : ∀ (j i : Nat) (S : yS), (∀ s, s < ns → ∀ k, k < 4 → cO (S 18 (4 * s + k)) np) → i + j = 4 → mOut np S (m_pbL g j i S)
  | 0, _, S, _, _ => mOut_rf S
  | j + 1, i, S, hB, h => mOut_tr (mOut_pbS hn hg (by omega) S hB) (mOut_pbL hn hg j (i + 1) _ (by rw [m_pbS_rw g S i 18 (by decide)]; exact hB) (by omega))
theorem mG_allL {np t : Nat} {v : Int32} (hv : v ≠ 1) : ∀ (j i : Nat) {S : yS}, mG S np t → mG (m_allL v j i S) np t
  | 0, _, _, h => h
  | j + 1, i, _, h => mG_allL hv j (i + 1) (mG_change h hv)
/-- the invariant but for the fault's seconds and the first green -/
def mP (S : yS) (np ns nd no nr t : Nat) : Prop := ∀ i, i ≠ 26 → i ≠ 31 → mJ S np ns nd no nr t i
theorem mP_of {S : yS} {np ns nd no nr t : Nat} (h : mI S np ns nd no nr t) : mP S np ns nd no nr t := fun i _ _ => h i
theorem mI_found {S : yS} {np ns nd no nr t : Nat} (a : Nat) (p : Int32) (h : mI S np ns nd no nr t) : mI (m_found S a p) np ns nd no nr t := by
  have e : ∀ k, k ∉ ([46, 47, 48] : List Nat) → (m_found S a p) k = S k := fun k hk => m_found_rw S a p k hk
  intro i
  match i with
  | 0 =>
    have q := h 0
    simp only [mJ] at q ⊢
    simp only [e 1 (by decide)]
    exact q
  | 1 =>
    have q := h 1
    simp only [mJ] at q ⊢
    simp only [e 17 (by decide)]
    exact q
  | 2 =>
    have q := h 2
    simp only [mJ] at q ⊢
    simp only [e 19 (by decide)]
    exact q
  | 3 =>
    have q := h 3
    simp only [mJ] at q ⊢
    simp only [e 23 (by decide)]
    exact q
  | 4 =>
    have q := h 4
    simp only [mJ] at q ⊢
    simp only [e 29 (by decide)]
    exact q
  | 5 =>
    have q := h 5
    simp only [mJ] at q ⊢
    simp only [e 0 (by decide)]
    exact q
  | 6 =>
    have q := h 6
    simp only [mJ] at q ⊢
    simp only [e 2 (by decide)]
    exact q
  | 7 =>
    have q := h 7
    simp only [mJ] at q ⊢
    simp only [e 4 (by decide)]
    exact q
  | 8 =>
    have q := h 8
    simp only [mJ] at q ⊢
    simp only [e 20 (by decide)]
    exact q
  | 9 =>
    have q := h 9
    simp only [mJ] at q ⊢
    simp only [e 18 (by decide)]
    exact q
  | 10 =>
    have q := h 10
    simp only [mJ] at q ⊢
    simp only [e 24 (by decide)]
    exact q
  | 11 =>
    have q := h 11
    simp only [mJ] at q ⊢
    simp only [e 30 (by decide), e 31 (by decide)]
    exact q
  | 12 =>
    have q := h 12
    simp only [mJ] at q ⊢
    simp only [e 34 (by decide)]
    exact q
  | 13 =>
    have q := h 13
    simp only [mJ] at q ⊢
    simp only [e 39 (by decide)]
    exact q
  | 14 =>
    have q := h 14
    simp only [mJ] at q ⊢
    simp only [e 38 (by decide)]
    exact q
  | 15 =>
    have q := h 15
    simp only [mJ] at q ⊢
    simp only [e 35 (by decide)]
    exact q
  | 16 =>
    have q := h 16
    simp only [mJ] at q ⊢
    simp only [e 14 (by decide), e 15 (by decide)]
    exact q
  | 17 =>
    have q := h 17
    simp only [mJ] at q ⊢
    simp only [e 40 (by decide)]
    exact q
  | 18 =>
    have q := h 18
    simp only [mJ] at q ⊢
    simp only [e 10 (by decide)]
    exact q
  | 19 =>
    have q := h 19
    simp only [mJ] at q ⊢
    simp only [e 11 (by decide), e 12 (by decide), e 13 (by decide)]
    exact q
  | 20 =>
    have q := h 20
    simp only [mJ] at q ⊢
    simp only [e 25 (by decide), e 26 (by decide), e 27 (by decide)]
    exact q
  | 21 =>
    have q := h 21
    simp only [mJ] at q ⊢
    simp only [e 16 (by decide)]
    exact q
  | 22 =>
    have q := h 22
    simp only [mJ] at q ⊢
    simp only [e 16 (by decide)]
    exact q
  | 23 =>
    have q := h 23
    simp only [mJ] at q ⊢
    simp only [e 18 (by decide)]
    exact q
  | 24 =>
    have q := h 24
    simp only [mJ] at q ⊢
    simp only [e 34 (by decide), e 18 (by decide), e 3 (by decide), e 10 (by decide)]
    exact q
  | 25 =>
    have q := h 25
    simp only [mJ] at q ⊢
    simp only [e 39 (by decide), e 34 (by decide)]
    exact q
  | 26 =>
    have q := h 26
    simp only [mJ] at q ⊢
    simp only [e 44 (by decide), e 42 (by decide)]
    exact q
  | 27 =>
    have q := h 27
    simp only [mJ] at q ⊢
    simp only [e 43 (by decide), e 45 (by decide)]
    exact q
  | 28 =>
    have q := h 28
    simp only [mJ] at q ⊢
    simp only [e 51 (by decide)]
    exact q
  | 29 =>
    have q := h 29
    simp only [mJ] at q ⊢
    simp only [e 3 (by decide), e 4 (by decide), e 5 (by decide), e 6 (by decide), e 7 (by decide), e 8 (by decide), e 9 (by decide), e 10 (by decide), e 11 (by decide), e 12 (by decide), e 13 (by decide), e 14 (by decide), e 15 (by decide)]
    exact q
  | 30 =>
    have q := h 30
    simp only [mJ] at q ⊢
    simp only [e 44 (by decide), e 34 (by decide)]
    exact q
  | 31 =>
    have q := h 31
    simp only [mJ] at q ⊢
    simp only [e 3 (by decide)]
    exact q
  | 32 =>
    have q := h 32
    simp only [mJ] at q ⊢
    simp only [e 18 (by decide)]
    exact q
  | (n + 33) => exact trivial
theorem mI_lamp {S : yS} {np ns nd no nr t : Nat} {p : Nat} {u : Int32} (hp : p < np) (hu : u = 0 ∨ u = 1) (h : mI S np ns nd no nr t) : mI (mset S 14 p u) np ns nd no nr t := by
  have e : ∀ k, k ∉ ([14] : List Nat) → (mset S 14 p u) k = S k := fun k hk => by simp at hk; simp [mset_ne, hk]
  intro i
  match i with
  | 0 =>
    have q := h 0
    simp only [mJ] at q ⊢
    simp only [e 1 (by decide)]
    exact q
  | 1 =>
    have q := h 1
    simp only [mJ] at q ⊢
    simp only [e 17 (by decide)]
    exact q
  | 2 =>
    have q := h 2
    simp only [mJ] at q ⊢
    simp only [e 19 (by decide)]
    exact q
  | 3 =>
    have q := h 3
    simp only [mJ] at q ⊢
    simp only [e 23 (by decide)]
    exact q
  | 4 =>
    have q := h 4
    simp only [mJ] at q ⊢
    simp only [e 29 (by decide)]
    exact q
  | 5 =>
    have q := h 5
    simp only [mJ] at q ⊢
    simp only [e 0 (by decide)]
    exact q
  | 6 =>
    have q := h 6
    simp only [mJ] at q ⊢
    simp only [e 2 (by decide)]
    exact q
  | 7 =>
    have q := h 7
    simp only [mJ] at q ⊢
    simp only [e 4 (by decide)]
    exact q
  | 8 =>
    have q := h 8
    simp only [mJ] at q ⊢
    simp only [e 20 (by decide)]
    exact q
  | 9 =>
    have q := h 9
    simp only [mJ] at q ⊢
    simp only [e 18 (by decide)]
    exact q
  | 10 =>
    have q := h 10
    simp only [mJ] at q ⊢
    simp only [e 24 (by decide)]
    exact q
  | 11 =>
    have q := h 11
    simp only [mJ] at q ⊢
    simp only [e 30 (by decide), e 31 (by decide)]
    exact q
  | 12 =>
    have q := h 12
    simp only [mJ] at q ⊢
    simp only [e 34 (by decide)]
    exact q
  | 13 =>
    have q := h 13
    simp only [mJ] at q ⊢
    simp only [e 39 (by decide)]
    exact q
  | 14 =>
    have q := h 14
    simp only [mJ] at q ⊢
    simp only [e 38 (by decide)]
    exact q
  | 15 =>
    have q := h 15
    simp only [mJ] at q ⊢
    simp only [e 35 (by decide)]
    exact q
  | 16 =>
    show ∀ q, q < np → (mset S 14 p u 14 q = 0 ∨ mset S 14 p u 14 q = 1) ∧ (mset S 14 p u 15 q = 0 ∨ mset S 14 p u 15 q = 1)
    intro q hq
    rw [e 15 (by decide), mset_at]
    refine ⟨?_, ((h 16) q hq).2⟩
    split
    · exact hu
    · exact ((h 16) q hq).1
  | 17 =>
    have q := h 17
    simp only [mJ] at q ⊢
    simp only [e 40 (by decide)]
    exact q
  | 18 =>
    have q := h 18
    simp only [mJ] at q ⊢
    simp only [e 10 (by decide)]
    exact q
  | 19 =>
    have q := h 19
    simp only [mJ] at q ⊢
    simp only [e 11 (by decide), e 12 (by decide), e 13 (by decide)]
    exact q
  | 20 =>
    have q := h 20
    simp only [mJ] at q ⊢
    simp only [e 25 (by decide), e 26 (by decide), e 27 (by decide)]
    exact q
  | 21 =>
    have q := h 21
    simp only [mJ] at q ⊢
    simp only [e 16 (by decide)]
    exact q
  | 22 =>
    have q := h 22
    simp only [mJ] at q ⊢
    simp only [e 16 (by decide)]
    exact q
  | 23 =>
    have q := h 23
    simp only [mJ] at q ⊢
    simp only [e 18 (by decide)]
    exact q
  | 24 =>
    have q := h 24
    simp only [mJ] at q ⊢
    simp only [e 34 (by decide), e 18 (by decide), e 3 (by decide), e 10 (by decide)]
    exact q
  | 25 =>
    have q := h 25
    simp only [mJ] at q ⊢
    simp only [e 39 (by decide), e 34 (by decide)]
    exact q
  | 26 =>
    have q := h 26
    simp only [mJ] at q ⊢
    simp only [e 44 (by decide), e 42 (by decide)]
    exact q
  | 27 =>
    have q := h 27
    simp only [mJ] at q ⊢
    simp only [e 43 (by decide), e 45 (by decide)]
    exact q
  | 28 =>
    have q := h 28
    simp only [mJ] at q ⊢
    simp only [e 51 (by decide)]
    exact q
  | 29 =>
    exact j29_out (h 29) (mOut_set S _ (Or.inl hp))
  | 30 =>
    have q := h 30
    simp only [mJ] at q ⊢
    simp only [e 44 (by decide), e 34 (by decide)]
    exact q
  | 31 =>
    have q := h 31
    simp only [mJ] at q ⊢
    simp only [e 3 (by decide)]
    exact q
  | 32 =>
    have q := h 32
    simp only [mJ] at q ⊢
    simp only [e 18 (by decide)]
    exact q
  | (n + 33) => exact trivial
theorem mI_alarm {S : yS} {np ns nd no nr t : Nat} (h : mI S np ns nd no nr t) : mI (mset S 40 0 1) np ns nd no nr t := by
  have e : ∀ k, k ∉ ([40] : List Nat) → (mset S 40 0 1) k = S k := fun k hk => by simp at hk; simp [mset_ne, hk]
  intro i
  match i with
  | 0 =>
    have q := h 0
    simp only [mJ] at q ⊢
    simp only [e 1 (by decide)]
    exact q
  | 1 =>
    have q := h 1
    simp only [mJ] at q ⊢
    simp only [e 17 (by decide)]
    exact q
  | 2 =>
    have q := h 2
    simp only [mJ] at q ⊢
    simp only [e 19 (by decide)]
    exact q
  | 3 =>
    have q := h 3
    simp only [mJ] at q ⊢
    simp only [e 23 (by decide)]
    exact q
  | 4 =>
    have q := h 4
    simp only [mJ] at q ⊢
    simp only [e 29 (by decide)]
    exact q
  | 5 =>
    have q := h 5
    simp only [mJ] at q ⊢
    simp only [e 0 (by decide)]
    exact q
  | 6 =>
    have q := h 6
    simp only [mJ] at q ⊢
    simp only [e 2 (by decide)]
    exact q
  | 7 =>
    have q := h 7
    simp only [mJ] at q ⊢
    simp only [e 4 (by decide)]
    exact q
  | 8 =>
    have q := h 8
    simp only [mJ] at q ⊢
    simp only [e 20 (by decide)]
    exact q
  | 9 =>
    have q := h 9
    simp only [mJ] at q ⊢
    simp only [e 18 (by decide)]
    exact q
  | 10 =>
    have q := h 10
    simp only [mJ] at q ⊢
    simp only [e 24 (by decide)]
    exact q
  | 11 =>
    have q := h 11
    simp only [mJ] at q ⊢
    simp only [e 30 (by decide), e 31 (by decide)]
    exact q
  | 12 =>
    have q := h 12
    simp only [mJ] at q ⊢
    simp only [e 34 (by decide)]
    exact q
  | 13 =>
    have q := h 13
    simp only [mJ] at q ⊢
    simp only [e 39 (by decide)]
    exact q
  | 14 =>
    have q := h 14
    simp only [mJ] at q ⊢
    simp only [e 38 (by decide)]
    exact q
  | 15 =>
    have q := h 15
    simp only [mJ] at q ⊢
    simp only [e 35 (by decide)]
    exact q
  | 16 =>
    have q := h 16
    simp only [mJ] at q ⊢
    simp only [e 14 (by decide), e 15 (by decide)]
    exact q
  | 17 =>
    exact Or.inr (mset_same _ _ _ _)
  | 18 =>
    have q := h 18
    simp only [mJ] at q ⊢
    simp only [e 10 (by decide)]
    exact q
  | 19 =>
    have q := h 19
    simp only [mJ] at q ⊢
    simp only [e 11 (by decide), e 12 (by decide), e 13 (by decide)]
    exact q
  | 20 =>
    have q := h 20
    simp only [mJ] at q ⊢
    simp only [e 25 (by decide), e 26 (by decide), e 27 (by decide)]
    exact q
  | 21 =>
    have q := h 21
    simp only [mJ] at q ⊢
    simp only [e 16 (by decide)]
    exact q
  | 22 =>
    have q := h 22
    simp only [mJ] at q ⊢
    simp only [e 16 (by decide)]
    exact q
  | 23 =>
    have q := h 23
    simp only [mJ] at q ⊢
    simp only [e 18 (by decide)]
    exact q
  | 24 =>
    have q := h 24
    simp only [mJ] at q ⊢
    simp only [e 34 (by decide), e 18 (by decide), e 3 (by decide), e 10 (by decide)]
    exact q
  | 25 =>
    have q := h 25
    simp only [mJ] at q ⊢
    simp only [e 39 (by decide), e 34 (by decide)]
    exact q
  | 26 =>
    have q := h 26
    simp only [mJ] at q ⊢
    simp only [e 44 (by decide), e 42 (by decide)]
    exact q
  | 27 =>
    have q := h 27
    simp only [mJ] at q ⊢
    simp only [e 43 (by decide), e 45 (by decide)]
    exact q
  | 28 =>
    have q := h 28
    simp only [mJ] at q ⊢
    simp only [e 51 (by decide)]
    exact q
  | 29 =>
    have q := h 29
    simp only [mJ] at q ⊢
    simp only [e 3 (by decide), e 4 (by decide), e 5 (by decide), e 6 (by decide), e 7 (by decide), e 8 (by decide), e 9 (by decide), e 10 (by decide), e 11 (by decide), e 12 (by decide), e 13 (by decide), e 14 (by decide), e 15 (by decide)]
    exact q
  | 30 =>
    have q := h 30
    simp only [mJ] at q ⊢
    simp only [e 44 (by decide), e 34 (by decide)]
    exact q
  | 31 =>
    have q := h 31
    simp only [mJ] at q ⊢
    simp only [e 3 (by decide)]
    exact q
  | 32 =>
    have q := h 32
    simp only [mJ] at q ⊢
    simp only [e 18 (by decide)]
    exact q
  | (n + 33) => exact trivial
theorem mI_ask {S : yS} {np ns nd no nr t : Nat} {p : Nat} (hp : p < np) (h3 : S 3 p ≠ 1) (h : mI S np ns nd no nr t) : mI (mset S 10 p (S 0 0)) np ns nd no nr t := by
  have e : ∀ k, k ∉ ([10] : List Nat) → (mset S 10 p (S 0 0)) k = S k := fun k hk => by simp at hk; simp [mset_ne, hk]
  intro i
  match i with
  | 0 =>
    have q := h 0
    simp only [mJ] at q ⊢
    simp only [e 1 (by decide)]
    exact q
  | 1 =>
    have q := h 1
    simp only [mJ] at q ⊢
    simp only [e 17 (by decide)]
    exact q
  | 2 =>
    have q := h 2
    simp only [mJ] at q ⊢
    simp only [e 19 (by decide)]
    exact q
  | 3 =>
    have q := h 3
    simp only [mJ] at q ⊢
    simp only [e 23 (by decide)]
    exact q
  | 4 =>
    have q := h 4
    simp only [mJ] at q ⊢
    simp only [e 29 (by decide)]
    exact q
  | 5 =>
    have q := h 5
    simp only [mJ] at q ⊢
    simp only [e 0 (by decide)]
    exact q
  | 6 =>
    have q := h 6
    simp only [mJ] at q ⊢
    simp only [e 2 (by decide)]
    exact q
  | 7 =>
    have q := h 7
    simp only [mJ] at q ⊢
    simp only [e 4 (by decide)]
    exact q
  | 8 =>
    have q := h 8
    simp only [mJ] at q ⊢
    simp only [e 20 (by decide)]
    exact q
  | 9 =>
    have q := h 9
    simp only [mJ] at q ⊢
    simp only [e 18 (by decide)]
    exact q
  | 10 =>
    have q := h 10
    simp only [mJ] at q ⊢
    simp only [e 24 (by decide)]
    exact q
  | 11 =>
    have q := h 11
    simp only [mJ] at q ⊢
    simp only [e 30 (by decide), e 31 (by decide)]
    exact q
  | 12 =>
    have q := h 12
    simp only [mJ] at q ⊢
    simp only [e 34 (by decide)]
    exact q
  | 13 =>
    have q := h 13
    simp only [mJ] at q ⊢
    simp only [e 39 (by decide)]
    exact q
  | 14 =>
    have q := h 14
    simp only [mJ] at q ⊢
    simp only [e 38 (by decide)]
    exact q
  | 15 =>
    have q := h 15
    simp only [mJ] at q ⊢
    simp only [e 35 (by decide)]
    exact q
  | 16 =>
    have q := h 16
    simp only [mJ] at q ⊢
    simp only [e 14 (by decide), e 15 (by decide)]
    exact q
  | 17 =>
    have q := h 17
    simp only [mJ] at q ⊢
    simp only [e 40 (by decide)]
    exact q
  | 18 =>
    show ∀ q, q < np → cO (mset S 10 p (S 0 0) 10 q) (t + 1)
    intro q hq
    rw [mset_at]
    split
    · exact Or.inr ⟨t, by omega, h 5⟩
    · exact (h 18) q hq
  | 19 =>
    have q := h 19
    simp only [mJ] at q ⊢
    simp only [e 11 (by decide), e 12 (by decide), e 13 (by decide)]
    exact q
  | 20 =>
    have q := h 20
    simp only [mJ] at q ⊢
    simp only [e 25 (by decide), e 26 (by decide), e 27 (by decide)]
    exact q
  | 21 =>
    have q := h 21
    simp only [mJ] at q ⊢
    simp only [e 16 (by decide)]
    exact q
  | 22 =>
    have q := h 22
    simp only [mJ] at q ⊢
    simp only [e 16 (by decide)]
    exact q
  | 23 =>
    have q := h 23
    simp only [mJ] at q ⊢
    simp only [e 18 (by decide)]
    exact q
  | 24 =>
    show ∀ s, s < ns → mset S 10 p (S 0 0) 34 0 = nI s → ∀ k, k < 4 → ∀ q, mset S 10 p (S 0 0) 18 (4 * s + k) = nI q → q < np → mset S 10 p (S 0 0) 3 q = 1 ∧ mset S 10 p (S 0 0) 10 q = -5
    rw [e 34 (by decide), e 18 (by decide), e 3 (by decide)]
    intro s hs a k hk q b hq
    obtain ⟨c1, c2⟩ := (h 24) s hs a k hk q b hq
    refine ⟨c1, ?_⟩
    rw [mset_at, if_neg (fun z => h3 (by rw [← z]; exact c1))]
    exact c2
  | 25 =>
    have q := h 25
    simp only [mJ] at q ⊢
    simp only [e 39 (by decide), e 34 (by decide)]
    exact q
  | 26 =>
    have q := h 26
    simp only [mJ] at q ⊢
    simp only [e 44 (by decide), e 42 (by decide)]
    exact q
  | 27 =>
    have q := h 27
    simp only [mJ] at q ⊢
    simp only [e 43 (by decide), e 45 (by decide)]
    exact q
  | 28 =>
    have q := h 28
    simp only [mJ] at q ⊢
    simp only [e 51 (by decide)]
    exact q
  | 29 =>
    exact j29_out (h 29) (mOut_set S _ (Or.inl hp))
  | 30 =>
    have q := h 30
    simp only [mJ] at q ⊢
    simp only [e 44 (by decide), e 34 (by decide)]
    exact q
  | 31 =>
    have q := h 31
    simp only [mJ] at q ⊢
    simp only [e 3 (by decide)]
    exact q
  | 32 =>
    have q := h 32
    simp only [mJ] at q ⊢
    simp only [e 18 (by decide)]
    exact q
  | (n + 33) => exact trivial
theorem mI_hurry {S : yS} {np ns nd no nr t : Nat} {s : Nat} (hs : s < ns) (h34 : nI s ≠ S 34 0) (h : mI S np ns nd no nr t) : mI (mset S 39 0 (nI s)) np ns nd no nr t := by
  have e : ∀ k, k ∉ ([39] : List Nat) → (mset S 39 0 (nI s)) k = S k := fun k hk => by simp at hk; simp [mset_ne, hk]
  intro i
  match i with
  | 0 =>
    have q := h 0
    simp only [mJ] at q ⊢
    simp only [e 1 (by decide)]
    exact q
  | 1 =>
    have q := h 1
    simp only [mJ] at q ⊢
    simp only [e 17 (by decide)]
    exact q
  | 2 =>
    have q := h 2
    simp only [mJ] at q ⊢
    simp only [e 19 (by decide)]
    exact q
  | 3 =>
    have q := h 3
    simp only [mJ] at q ⊢
    simp only [e 23 (by decide)]
    exact q
  | 4 =>
    have q := h 4
    simp only [mJ] at q ⊢
    simp only [e 29 (by decide)]
    exact q
  | 5 =>
    have q := h 5
    simp only [mJ] at q ⊢
    simp only [e 0 (by decide)]
    exact q
  | 6 =>
    have q := h 6
    simp only [mJ] at q ⊢
    simp only [e 2 (by decide)]
    exact q
  | 7 =>
    have q := h 7
    simp only [mJ] at q ⊢
    simp only [e 4 (by decide)]
    exact q
  | 8 =>
    have q := h 8
    simp only [mJ] at q ⊢
    simp only [e 20 (by decide)]
    exact q
  | 9 =>
    have q := h 9
    simp only [mJ] at q ⊢
    simp only [e 18 (by decide)]
    exact q
  | 10 =>
    have q := h 10
    simp only [mJ] at q ⊢
    simp only [e 24 (by decide)]
    exact q
  | 11 =>
    have q := h 11
    simp only [mJ] at q ⊢
    simp only [e 30 (by decide), e 31 (by decide)]
    exact q
  | 12 =>
    have q := h 12
    simp only [mJ] at q ⊢
    simp only [e 34 (by decide)]
    exact q
  | 13 =>
    exact Or.inr ⟨s, hs, mset_same _ _ _ _⟩
  | 14 =>
    have q := h 14
    simp only [mJ] at q ⊢
    simp only [e 38 (by decide)]
    exact q
  | 15 =>
    have q := h 15
    simp only [mJ] at q ⊢
    simp only [e 35 (by decide)]
    exact q
  | 16 =>
    have q := h 16
    simp only [mJ] at q ⊢
    simp only [e 14 (by decide), e 15 (by decide)]
    exact q
  | 17 =>
    have q := h 17
    simp only [mJ] at q ⊢
    simp only [e 40 (by decide)]
    exact q
  | 18 =>
    have q := h 18
    simp only [mJ] at q ⊢
    simp only [e 10 (by decide)]
    exact q
  | 19 =>
    have q := h 19
    simp only [mJ] at q ⊢
    simp only [e 11 (by decide), e 12 (by decide), e 13 (by decide)]
    exact q
  | 20 =>
    have q := h 20
    simp only [mJ] at q ⊢
    simp only [e 25 (by decide), e 26 (by decide), e 27 (by decide)]
    exact q
  | 21 =>
    have q := h 21
    simp only [mJ] at q ⊢
    simp only [e 16 (by decide)]
    exact q
  | 22 =>
    have q := h 22
    simp only [mJ] at q ⊢
    simp only [e 16 (by decide)]
    exact q
  | 23 =>
    have q := h 23
    simp only [mJ] at q ⊢
    simp only [e 18 (by decide)]
    exact q
  | 24 =>
    have q := h 24
    simp only [mJ] at q ⊢
    simp only [e 34 (by decide), e 18 (by decide), e 3 (by decide), e 10 (by decide)]
    exact q
  | 25 =>
    show ∀ q, q < ns → mset S 39 0 (nI s) 39 0 = nI q → mset S 39 0 (nI s) 34 0 ≠ nI q
    rw [e 34 (by decide), mset_same]
    intro q hq a b
    exact h34 (by rw [b, a])
  | 26 =>
    have q := h 26
    simp only [mJ] at q ⊢
    simp only [e 44 (by decide), e 42 (by decide)]
    exact q
  | 27 =>
    have q := h 27
    simp only [mJ] at q ⊢
    simp only [e 43 (by decide), e 45 (by decide)]
    exact q
  | 28 =>
    have q := h 28
    simp only [mJ] at q ⊢
    simp only [e 51 (by decide)]
    exact q
  | 29 =>
    have q := h 29
    simp only [mJ] at q ⊢
    simp only [e 3 (by decide), e 4 (by decide), e 5 (by decide), e 6 (by decide), e 7 (by decide), e 8 (by decide), e 9 (by decide), e 10 (by decide), e 11 (by decide), e 12 (by decide), e 13 (by decide), e 14 (by decide), e 15 (by decide)]
    exact q
  | 30 =>
    have q := h 30
    simp only [mJ] at q ⊢
    simp only [e 44 (by decide), e 34 (by decide)]
    exact q
  | 31 =>
    have q := h 31
    simp only [mJ] at q ⊢
    simp only [e 3 (by decide)]
    exact q
  | 32 =>
    have q := h 32
    simp only [mJ] at q ⊢
    simp only [e 18 (by decide)]
    exact q
  | (n + 33) => exact trivial
theorem mI_cut {S : yS} {np ns nd no nr t : Nat} {d : Nat} (h : mI S np ns nd no nr t) : mI (mset S 20 d (-5)) np ns nd no nr t := by
  have e : ∀ k, k ∉ ([20] : List Nat) → (mset S 20 d (-5)) k = S k := fun k hk => by simp at hk; simp [mset_ne, hk]
  intro i
  match i with
  | 0 =>
    have q := h 0
    simp only [mJ] at q ⊢
    simp only [e 1 (by decide)]
    exact q
  | 1 =>
    have q := h 1
    simp only [mJ] at q ⊢
    simp only [e 17 (by decide)]
    exact q
  | 2 =>
    have q := h 2
    simp only [mJ] at q ⊢
    simp only [e 19 (by decide)]
    exact q
  | 3 =>
    have q := h 3
    simp only [mJ] at q ⊢
    simp only [e 23 (by decide)]
    exact q
  | 4 =>
    have q := h 4
    simp only [mJ] at q ⊢
    simp only [e 29 (by decide)]
    exact q
  | 5 =>
    have q := h 5
    simp only [mJ] at q ⊢
    simp only [e 0 (by decide)]
    exact q
  | 6 =>
    have q := h 6
    simp only [mJ] at q ⊢
    simp only [e 2 (by decide)]
    exact q
  | 7 =>
    have q := h 7
    simp only [mJ] at q ⊢
    simp only [e 4 (by decide)]
    exact q
  | 8 =>
    show ∀ q, q < nd → cO (mset S 20 d (-5) 20 q) 201
    intro q hq
    rw [mset_at]
    split
    · exact Or.inl rfl
    · exact (h 8) q hq
  | 9 =>
    have q := h 9
    simp only [mJ] at q ⊢
    simp only [e 18 (by decide)]
    exact q
  | 10 =>
    have q := h 10
    simp only [mJ] at q ⊢
    simp only [e 24 (by decide)]
    exact q
  | 11 =>
    have q := h 11
    simp only [mJ] at q ⊢
    simp only [e 30 (by decide), e 31 (by decide)]
    exact q
  | 12 =>
    have q := h 12
    simp only [mJ] at q ⊢
    simp only [e 34 (by decide)]
    exact q
  | 13 =>
    have q := h 13
    simp only [mJ] at q ⊢
    simp only [e 39 (by decide)]
    exact q
  | 14 =>
    have q := h 14
    simp only [mJ] at q ⊢
    simp only [e 38 (by decide)]
    exact q
  | 15 =>
    have q := h 15
    simp only [mJ] at q ⊢
    simp only [e 35 (by decide)]
    exact q
  | 16 =>
    have q := h 16
    simp only [mJ] at q ⊢
    simp only [e 14 (by decide), e 15 (by decide)]
    exact q
  | 17 =>
    have q := h 17
    simp only [mJ] at q ⊢
    simp only [e 40 (by decide)]
    exact q
  | 18 =>
    have q := h 18
    simp only [mJ] at q ⊢
    simp only [e 10 (by decide)]
    exact q
  | 19 =>
    have q := h 19
    simp only [mJ] at q ⊢
    simp only [e 11 (by decide), e 12 (by decide), e 13 (by decide)]
    exact q
  | 20 =>
    have q := h 20
    simp only [mJ] at q ⊢
    simp only [e 25 (by decide), e 26 (by decide), e 27 (by decide)]
    exact q
  | 21 =>
    have q := h 21
    simp only [mJ] at q ⊢
    simp only [e 16 (by decide)]
    exact q
  | 22 =>
    have q := h 22
    simp only [mJ] at q ⊢
    simp only [e 16 (by decide)]
    exact q
  | 23 =>
    have q := h 23
    simp only [mJ] at q ⊢
    simp only [e 18 (by decide)]
    exact q
  | 24 =>
    have q := h 24
    simp only [mJ] at q ⊢
    simp only [e 34 (by decide), e 18 (by decide), e 3 (by decide), e 10 (by decide)]
    exact q
  | 25 =>
    have q := h 25
    simp only [mJ] at q ⊢
    simp only [e 39 (by decide), e 34 (by decide)]
    exact q
  | 26 =>
    have q := h 26
    simp only [mJ] at q ⊢
    simp only [e 44 (by decide), e 42 (by decide)]
    exact q
  | 27 =>
    have q := h 27
    simp only [mJ] at q ⊢
    simp only [e 43 (by decide), e 45 (by decide)]
    exact q
  | 28 =>
    have q := h 28
    simp only [mJ] at q ⊢
    simp only [e 51 (by decide)]
    exact q
  | 29 =>
    have q := h 29
    simp only [mJ] at q ⊢
    simp only [e 3 (by decide), e 4 (by decide), e 5 (by decide), e 6 (by decide), e 7 (by decide), e 8 (by decide), e 9 (by decide), e 10 (by decide), e 11 (by decide), e 12 (by decide), e 13 (by decide), e 14 (by decide), e 15 (by decide)]
    exact q
  | 30 =>
    have q := h 30
    simp only [mJ] at q ⊢
    simp only [e 44 (by decide), e 34 (by decide)]
    exact q
  | 31 =>
    have q := h 31
    simp only [mJ] at q ⊢
    simp only [e 3 (by decide)]
    exact q
  | 32 =>
    have q := h 32
    simp only [mJ] at q ⊢
    simp only [e 18 (by decide)]
    exact q
  | (n + 33) => exact trivial
theorem mI_passing {S : yS} {np ns nd no nr t : Nat} {d j a b : Nat} {u v : Int32} (hj : j < 200) (h : mI S np ns nd no nr t) : mI (mset (mset (mset S 21 a u) 22 b v) 20 d (nI j + 1)) np ns nd no nr t := by
  have e : ∀ k, k ∉ ([20, 21, 22] : List Nat) → (mset (mset (mset S 21 a u) 22 b v) 20 d (nI j + 1)) k = S k := fun k hk => by simp at hk; simp [mset_ne, hk]
  intro i
  match i with
  | 0 =>
    have q := h 0
    simp only [mJ] at q ⊢
    simp only [e 1 (by decide)]
    exact q
  | 1 =>
    have q := h 1
    simp only [mJ] at q ⊢
    simp only [e 17 (by decide)]
    exact q
  | 2 =>
    have q := h 2
    simp only [mJ] at q ⊢
    simp only [e 19 (by decide)]
    exact q
  | 3 =>
    have q := h 3
    simp only [mJ] at q ⊢
    simp only [e 23 (by decide)]
    exact q
  | 4 =>
    have q := h 4
    simp only [mJ] at q ⊢
    simp only [e 29 (by decide)]
    exact q
  | 5 =>
    have q := h 5
    simp only [mJ] at q ⊢
    simp only [e 0 (by decide)]
    exact q
  | 6 =>
    have q := h 6
    simp only [mJ] at q ⊢
    simp only [e 2 (by decide)]
    exact q
  | 7 =>
    have q := h 7
    simp only [mJ] at q ⊢
    simp only [e 4 (by decide)]
    exact q
  | 8 =>
    show ∀ q, q < nd → cO (mset (mset (mset S 21 a u) 22 b v) 20 d (nI j + 1) 20 q) 201
    intro q hq
    rw [mset_at]
    split
    · exact Or.inr ⟨j + 1, by omega, nI_1 j⟩
    · rw [mset_ne _ _ (by decide), mset_ne _ _ (by decide)]
      exact (h 8) q hq
  | 9 =>
    have q := h 9
    simp only [mJ] at q ⊢
    simp only [e 18 (by decide)]
    exact q
  | 10 =>
    have q := h 10
    simp only [mJ] at q ⊢
    simp only [e 24 (by decide)]
    exact q
  | 11 =>
    have q := h 11
    simp only [mJ] at q ⊢
    simp only [e 30 (by decide), e 31 (by decide)]
    exact q
  | 12 =>
    have q := h 12
    simp only [mJ] at q ⊢
    simp only [e 34 (by decide)]
    exact q
  | 13 =>
    have q := h 13
    simp only [mJ] at q ⊢
    simp only [e 39 (by decide)]
    exact q
  | 14 =>
    have q := h 14
    simp only [mJ] at q ⊢
    simp only [e 38 (by decide)]
    exact q
  | 15 =>
    have q := h 15
    simp only [mJ] at q ⊢
    simp only [e 35 (by decide)]
    exact q
  | 16 =>
    have q := h 16
    simp only [mJ] at q ⊢
    simp only [e 14 (by decide), e 15 (by decide)]
    exact q
  | 17 =>
    have q := h 17
    simp only [mJ] at q ⊢
    simp only [e 40 (by decide)]
    exact q
  | 18 =>
    have q := h 18
    simp only [mJ] at q ⊢
    simp only [e 10 (by decide)]
    exact q
  | 19 =>
    have q := h 19
    simp only [mJ] at q ⊢
    simp only [e 11 (by decide), e 12 (by decide), e 13 (by decide)]
    exact q
  | 20 =>
    have q := h 20
    simp only [mJ] at q ⊢
    simp only [e 25 (by decide), e 26 (by decide), e 27 (by decide)]
    exact q
  | 21 =>
    have q := h 21
    simp only [mJ] at q ⊢
    simp only [e 16 (by decide)]
    exact q
  | 22 =>
    have q := h 22
    simp only [mJ] at q ⊢
    simp only [e 16 (by decide)]
    exact q
  | 23 =>
    have q := h 23
    simp only [mJ] at q ⊢
    simp only [e 18 (by decide)]
    exact q
  | 24 =>
    have q := h 24
    simp only [mJ] at q ⊢
    simp only [e 34 (by decide), e 18 (by decide), e 3 (by decide), e 10 (by decide)]
    exact q
  | 25 =>
    have q := h 25
    simp only [mJ] at q ⊢
    simp only [e 39 (by decide), e 34 (by decide)]
    exact q
  | 26 =>
    have q := h 26
    simp only [mJ] at q ⊢
    simp only [e 44 (by decide), e 42 (by decide)]
    exact q
  | 27 =>
    have q := h 27
    simp only [mJ] at q ⊢
    simp only [e 43 (by decide), e 45 (by decide)]
    exact q
  | 28 =>
    have q := h 28
    simp only [mJ] at q ⊢
    simp only [e 51 (by decide)]
    exact q
  | 29 =>
    have q := h 29
    simp only [mJ] at q ⊢
    simp only [e 3 (by decide), e 4 (by decide), e 5 (by decide), e 6 (by decide), e 7 (by decide), e 8 (by decide), e 9 (by decide), e 10 (by decide), e 11 (by decide), e 12 (by decide), e 13 (by decide), e 14 (by decide), e 15 (by decide)]
    exact q
  | 30 =>
    have q := h 30
    simp only [mJ] at q ⊢
    simp only [e 44 (by decide), e 34 (by decide)]
    exact q
  | 31 =>
    have q := h 31
    simp only [mJ] at q ⊢
    simp only [e 3 (by decide)]
    exact q
  | 32 =>
    have q := h 32
    simp only [mJ] at q ⊢
    simp only [e 18 (by decide)]
    exact q
  | (n + 33) => exact trivial
theorem j16_at {p q x y : Nat} (hq : q < 8) (hy : y < 8) (h : 8 * p + q = 8 * x + y) : p = x ∧ q = y := by omega
theorem conf_at {S : yS} {p q a b np : Nat} (hp : p < np) (hq : q < np) (hn : np ≤ 8) (x y : Nat) (_ : x < 8) (hy : y < 8) (ne : p ≠ q) : (mset (mset S 16 (8 * p + q) (nI a + 1)) 16 (8 * q + p) (nI b + 1)) 16 (8 * x + y) = if x = q ∧ y = p then nI (b + 1) else if x = p ∧ y = q then nI (a + 1) else S 16 (8 * x + y) := by
  rw [mset_at, mset_at, nI_1, nI_1]
  by_cases c1 : x = q ∧ y = p
  · obtain ⟨rfl, rfl⟩ := c1
    simp
  · rw [if_neg (by omega), if_neg c1]
    by_cases c2 : x = p ∧ y = q
    · obtain ⟨rfl, rfl⟩ := c2
      simp
    · rw [if_neg (by omega), if_neg c2]
theorem mI_conflict {S : yS} {np ns nd no nr t : Nat} {p q a b : Nat} (hp : p < np) (hq : q < np) (ne : p ≠ q) (ha : a ≤ 20) (hb : b ≤ 20) (h : mI S np ns nd no nr t) : mI (mset (mset S 16 (8 * p + q) (nI a + 1)) 16 (8 * q + p) (nI b + 1)) np ns nd no nr t := by
  have e : ∀ k, k ∉ ([16] : List Nat) → (mset (mset S 16 (8 * p + q) (nI a + 1)) 16 (8 * q + p) (nI b + 1)) k = S k := fun k hk => by
    have hk2 : k ≠ 16 := by simpa using hk
    rw [mset_ne _ _ hk2, mset_ne _ _ hk2]
  intro i
  match i with
  | 0 =>
    have q := h 0
    simp only [mJ] at q ⊢
    simp only [e 1 (by decide)]
    exact q
  | 1 =>
    have q := h 1
    simp only [mJ] at q ⊢
    simp only [e 17 (by decide)]
    exact q
  | 2 =>
    have q := h 2
    simp only [mJ] at q ⊢
    simp only [e 19 (by decide)]
    exact q
  | 3 =>
    have q := h 3
    simp only [mJ] at q ⊢
    simp only [e 23 (by decide)]
    exact q
  | 4 =>
    have q := h 4
    simp only [mJ] at q ⊢
    simp only [e 29 (by decide)]
    exact q
  | 5 =>
    have q := h 5
    simp only [mJ] at q ⊢
    simp only [e 0 (by decide)]
    exact q
  | 6 =>
    have q := h 6
    simp only [mJ] at q ⊢
    simp only [e 2 (by decide)]
    exact q
  | 7 =>
    have q := h 7
    simp only [mJ] at q ⊢
    simp only [e 4 (by decide)]
    exact q
  | 8 =>
    have q := h 8
    simp only [mJ] at q ⊢
    simp only [e 20 (by decide)]
    exact q
  | 9 =>
    have q := h 9
    simp only [mJ] at q ⊢
    simp only [e 18 (by decide)]
    exact q
  | 10 =>
    have q := h 10
    simp only [mJ] at q ⊢
    simp only [e 24 (by decide)]
    exact q
  | 11 =>
    have q := h 11
    simp only [mJ] at q ⊢
    simp only [e 30 (by decide), e 31 (by decide)]
    exact q
  | 12 =>
    have q := h 12
    simp only [mJ] at q ⊢
    simp only [e 34 (by decide)]
    exact q
  | 13 =>
    have q := h 13
    simp only [mJ] at q ⊢
    simp only [e 39 (by decide)]
    exact q
  | 14 =>
    have q := h 14
    simp only [mJ] at q ⊢
    simp only [e 38 (by decide)]
    exact q
  | 15 =>
    have q := h 15
    simp only [mJ] at q ⊢
    simp only [e 35 (by decide)]
    exact q
  | 16 =>
    have q := h 16
    simp only [mJ] at q ⊢
    simp only [e 14 (by decide), e 15 (by decide)]
    exact q
  | 17 =>
    have q := h 17
    simp only [mJ] at q ⊢
    simp only [e 40 (by decide)]
    exact q
  | 18 =>
    have q := h 18
    simp only [mJ] at q ⊢
    simp only [e 10 (by decide)]
    exact q
  | 19 =>
    have q := h 19
    simp only [mJ] at q ⊢
    simp only [e 11 (by decide), e 12 (by decide), e 13 (by decide)]
    exact q
  | 20 =>
    have q := h 20
    simp only [mJ] at q ⊢
    simp only [e 25 (by decide), e 26 (by decide), e 27 (by decide)]
    exact q
  | 21 =>
    have n0 : np ≤ 8 := (h 0).2
    show ∀ x, x < 8 → ∀ y, y < 8 → ∃ c, c ≤ 21 ∧ (mset (mset S 16 (8 * p + q) (nI a + 1)) 16 (8 * q + p) (nI b + 1)) 16 (8 * x + y) = nI c ∧ (x = y → c = 0) ∧ (np ≤ x → c = 0) ∧ (np ≤ y → c = 0)
    intro x hx y hy
    rw [conf_at hp hq n0 x y hx hy ne]
    split
    · exact ⟨b + 1, by omega, rfl, by omega, by omega, by omega⟩
    · split
      · exact ⟨a + 1, by omega, rfl, by omega, by omega, by omega⟩
      · exact (h 21) x hx y hy
  | 22 =>
    have n0 : np ≤ 8 := (h 0).2
    show ∀ x, x < 8 → ∀ y, y < 8 → (0 < (mset (mset S 16 (8 * p + q) (nI a + 1)) 16 (8 * q + p) (nI b + 1)) 16 (8 * x + y) ↔ 0 < (mset (mset S 16 (8 * p + q) (nI a + 1)) 16 (8 * q + p) (nI b + 1)) 16 (8 * y + x))
    intro x hx y hy
    rw [conf_at hp hq n0 x y hx hy ne, conf_at hp hq n0 y x hy hx ne]
    have pa : (0 : Int32) < nI (a + 1) := nI_lt (a := 0) (by omega) (by omega)
    have pb : (0 : Int32) < nI (b + 1) := nI_lt (a := 0) (by omega) (by omega)
    by_cases c1 : x = q ∧ y = p
    · rw [if_pos c1, if_neg (by omega), if_pos (by omega)]
      exact ⟨fun _ => pa, fun _ => pb⟩
    · rw [if_neg c1]
      by_cases c2 : x = p ∧ y = q
      · rw [if_pos c2, if_pos (by omega)]
        exact ⟨fun _ => pb, fun _ => pa⟩
      · rw [if_neg c2, if_neg (by omega), if_neg (by omega)]
        exact (h 22) x hx y hy
  | 23 =>
    have q := h 23
    simp only [mJ] at q ⊢
    simp only [e 18 (by decide)]
    exact q
  | 24 =>
    have q := h 24
    simp only [mJ] at q ⊢
    simp only [e 34 (by decide), e 18 (by decide), e 3 (by decide), e 10 (by decide)]
    exact q
  | 25 =>
    have q := h 25
    simp only [mJ] at q ⊢
    simp only [e 39 (by decide), e 34 (by decide)]
    exact q
  | 26 =>
    have q := h 26
    simp only [mJ] at q ⊢
    simp only [e 44 (by decide), e 42 (by decide)]
    exact q
  | 27 =>
    have q := h 27
    simp only [mJ] at q ⊢
    simp only [e 43 (by decide), e 45 (by decide)]
    exact q
  | 28 =>
    have q := h 28
    simp only [mJ] at q ⊢
    simp only [e 51 (by decide)]
    exact q
  | 29 =>
    have q := h 29
    simp only [mJ] at q ⊢
    simp only [e 3 (by decide), e 4 (by decide), e 5 (by decide), e 6 (by decide), e 7 (by decide), e 8 (by decide), e 9 (by decide), e 10 (by decide), e 11 (by decide), e 12 (by decide), e 13 (by decide), e 14 (by decide), e 15 (by decide)]
    exact q
  | 30 =>
    have q := h 30
    simp only [mJ] at q ⊢
    simp only [e 44 (by decide), e 34 (by decide)]
    exact q
  | 31 =>
    have q := h 31
    simp only [mJ] at q ⊢
    simp only [e 3 (by decide)]
    exact q
  | 32 =>
    have q := h 32
    simp only [mJ] at q ⊢
    simp only [e 18 (by decide)]
    exact q
  | (n + 33) => exact trivial
theorem mI_restore {S : yS} {np ns nd no nr t : Nat} (h34 : S 34 0 = -5) (h : mI S np ns nd no nr t) : mI (m_allL 0 np 0 (mset S 44 0 0)) np ns nd no nr t := by
  have e : ∀ k, k ∉ ([3, 5, 6, 44, 46, 47, 48, 49] : List Nat) → (m_allL 0 np 0 (mset S 44 0 0)) k = S k := fun k hk => by
    rw [mRw_mono (l' := [3,5,6,44,46,47,48,49]) (m_allL_rw 0 np 0 _) rfl k hk, mset_ne _ _ (fun q => hk (by simp [q]))]
  intro i
  match i with
  | 0 =>
    have q := h 0
    simp only [mJ] at q ⊢
    simp only [e 1 (by decide)]
    exact q
  | 1 =>
    have q := h 1
    simp only [mJ] at q ⊢
    simp only [e 17 (by decide)]
    exact q
  | 2 =>
    have q := h 2
    simp only [mJ] at q ⊢
    simp only [e 19 (by decide)]
    exact q
  | 3 =>
    have q := h 3
    simp only [mJ] at q ⊢
    simp only [e 23 (by decide)]
    exact q
  | 4 =>
    have q := h 4
    simp only [mJ] at q ⊢
    simp only [e 29 (by decide)]
    exact q
  | 5 =>
    have q := h 5
    simp only [mJ] at q ⊢
    simp only [e 0 (by decide)]
    exact q
  | 6 =>
    have q := h 6
    simp only [mJ] at q ⊢
    simp only [e 2 (by decide)]
    exact q
  | 7 =>
    have q := h 7
    simp only [mJ] at q ⊢
    simp only [e 4 (by decide)]
    exact q
  | 8 =>
    have q := h 8
    simp only [mJ] at q ⊢
    simp only [e 20 (by decide)]
    exact q
  | 9 =>
    have q := h 9
    simp only [mJ] at q ⊢
    simp only [e 18 (by decide)]
    exact q
  | 10 =>
    have q := h 10
    simp only [mJ] at q ⊢
    simp only [e 24 (by decide)]
    exact q
  | 11 =>
    have q := h 11
    simp only [mJ] at q ⊢
    simp only [e 30 (by decide), e 31 (by decide)]
    exact q
  | 12 =>
    have q := h 12
    simp only [mJ] at q ⊢
    simp only [e 34 (by decide)]
    exact q
  | 13 =>
    have q := h 13
    simp only [mJ] at q ⊢
    simp only [e 39 (by decide)]
    exact q
  | 14 =>
    have q := h 14
    simp only [mJ] at q ⊢
    simp only [e 38 (by decide)]
    exact q
  | 15 =>
    have q := h 15
    simp only [mJ] at q ⊢
    simp only [e 35 (by decide)]
    exact q
  | 16 =>
    have q := h 16
    simp only [mJ] at q ⊢
    simp only [e 14 (by decide), e 15 (by decide)]
    exact q
  | 17 =>
    have q := h 17
    simp only [mJ] at q ⊢
    simp only [e 40 (by decide)]
    exact q
  | 18 =>
    have q := h 18
    simp only [mJ] at q ⊢
    simp only [e 10 (by decide)]
    exact q
  | 19 =>
    have q := h 19
    simp only [mJ] at q ⊢
    simp only [e 11 (by decide), e 12 (by decide), e 13 (by decide)]
    exact q
  | 20 =>
    have q := h 20
    simp only [mJ] at q ⊢
    simp only [e 25 (by decide), e 26 (by decide), e 27 (by decide)]
    exact q
  | 21 =>
    have q := h 21
    simp only [mJ] at q ⊢
    simp only [e 16 (by decide)]
    exact q
  | 22 =>
    have q := h 22
    simp only [mJ] at q ⊢
    simp only [e 16 (by decide)]
    exact q
  | 23 =>
    have q := h 23
    simp only [mJ] at q ⊢
    simp only [e 18 (by decide)]
    exact q
  | 24 =>
    show ∀ s, s < ns → m_allL 0 np 0 (mset S 44 0 0) 34 0 = nI s → _
    rw [e 34 (by decide), h34]
    intro s hs a
    exact absurd a.symm (nI_m5 (by have : ns ≤ 6 := (h 1).2; omega))
  | 25 =>
    have q := h 25
    simp only [mJ] at q ⊢
    simp only [e 39 (by decide), e 34 (by decide)]
    exact q
  | 26 =>
    show m_allL 0 np 0 (mset S 44 0 0) 44 0 = 0 ∨ _
    rw [m_allL_rw 0 np 0 _ 44 (by decide), mset_same]
    exact Or.inl rfl
  | 27 =>
    have q := h 27
    simp only [mJ] at q ⊢
    simp only [e 43 (by decide), e 45 (by decide)]
    exact q
  | 28 =>
    have q := h 28
    simp only [mJ] at q ⊢
    simp only [e 51 (by decide)]
    exact q
  | 29 =>
    exact j29_out (h 29) (mOut_tr (mOut_set S _ (Or.inr (by decide))) (mOut_allL 0 np 0 _ (by omega)))
  | 30 =>
    intro _
    rw [e 34 (by decide)]
    exact h34
  | 31 =>
    exact mG_allL (by decide) np 0 (mG_row (h 31) (mset_ne _ _ (by decide)))
  | 32 =>
    have q := h 32
    simp only [mJ] at q ⊢
    simp only [e 18 (by decide)]
    exact q
  | (n + 33) => exact trivial
theorem mI_phase {S : yS} {np ns nd no nr t : Nat} {kk : Nat} (hk4 : kk ≤ 4) (hnp : np < 8) (h : mI S np ns nd no nr t) : mI (mset (mset S 2 np (nI kk)) 1 0 (nI np + 1)) (np + 1) ns nd no nr t := by
  have e : ∀ k, k ∉ ([1, 2] : List Nat) → (mset (mset S 2 np (nI kk)) 1 0 (nI np + 1)) k = S k := fun k hk => by simp at hk; simp [mset_ne, hk]
  intro i
  match i with
  | 0 =>
    exact ⟨by rw [mset_same, nI_1], by omega⟩
  | 1 =>
    have q := h 1
    simp only [mJ] at q ⊢
    simp only [e 17 (by decide)]
    exact q
  | 2 =>
    have q := h 2
    simp only [mJ] at q ⊢
    simp only [e 19 (by decide)]
    exact q
  | 3 =>
    have q := h 3
    simp only [mJ] at q ⊢
    simp only [e 23 (by decide)]
    exact q
  | 4 =>
    have q := h 4
    simp only [mJ] at q ⊢
    simp only [e 29 (by decide)]
    exact q
  | 5 =>
    have q := h 5
    simp only [mJ] at q ⊢
    simp only [e 0 (by decide)]
    exact q
  | 6 =>
    show ∀ p, p < np + 1 → ∃ j, j ≤ 4 ∧ (mset (mset S 2 np (nI kk)) 1 0 (nI np + 1)) 2 p = nI j
    intro p hp
    rw [mset_ne _ _ (by decide), mset_at]
    split
    · exact ⟨kk, hk4, rfl⟩
    · exact (h 6) p (by omega)
  | 7 =>
    show ∀ p, p < np + 1 → cO ((mset (mset S 2 np (nI kk)) 1 0 (nI np + 1)) 4 p) nd
    rw [e 4 (by decide)]
    intro p hp
    by_cases c : p < np
    · exact (h 7) p c
    · exact Or.inl ((h 29) p (by omega) (by omega)).2.1
  | 8 =>
    have q := h 8
    simp only [mJ] at q ⊢
    simp only [e 20 (by decide)]
    exact q
  | 9 =>
    show ∀ s, s < ns → ∀ k, k < 4 → cO ((mset (mset S 2 np (nI kk)) 1 0 (nI np + 1)) 18 (4 * s + k)) (np + 1)
    rw [e 18 (by decide)]
    exact fun s hs k hk => cO_mono ((h 9) s hs k hk) (by omega)
  | 10 =>
    show ∀ k, k < no → ∃ p, p < np + 1 ∧ (mset (mset S 2 np (nI kk)) 1 0 (nI np + 1)) 24 k = nI p
    rw [e 24 (by decide)]
    intro k hk
    obtain ⟨p, hp, q⟩ := (h 10) k hk
    exact ⟨p, by omega, q⟩
  | 11 =>
    have q := h 11
    simp only [mJ] at q ⊢
    simp only [e 30 (by decide), e 31 (by decide)]
    exact q
  | 12 =>
    have q := h 12
    simp only [mJ] at q ⊢
    simp only [e 34 (by decide)]
    exact q
  | 13 =>
    have q := h 13
    simp only [mJ] at q ⊢
    simp only [e 39 (by decide)]
    exact q
  | 14 =>
    have q := h 14
    simp only [mJ] at q ⊢
    simp only [e 38 (by decide)]
    exact q
  | 15 =>
    have q := h 15
    simp only [mJ] at q ⊢
    simp only [e 35 (by decide)]
    exact q
  | 16 =>
    show ∀ p, p < np + 1 → ((mset (mset S 2 np (nI kk)) 1 0 (nI np + 1)) 14 p = 0 ∨ (mset (mset S 2 np (nI kk)) 1 0 (nI np + 1)) 14 p = 1) ∧ ((mset (mset S 2 np (nI kk)) 1 0 (nI np + 1)) 15 p = 0 ∨ (mset (mset S 2 np (nI kk)) 1 0 (nI np + 1)) 15 p = 1)
    rw [e 14 (by decide), e 15 (by decide)]
    intro p hp
    by_cases c : p < np
    · exact (h 16) p c
    · have q := (h 29) p (by omega) (by omega)
      exact ⟨Or.inl q.2.2.2.2.2.2.2.2.2.2.2.1, Or.inl q.2.2.2.2.2.2.2.2.2.2.2.2⟩
  | 17 =>
    have q := h 17
    simp only [mJ] at q ⊢
    simp only [e 40 (by decide)]
    exact q
  | 18 =>
    show ∀ p, p < np + 1 → cO ((mset (mset S 2 np (nI kk)) 1 0 (nI np + 1)) 10 p) (t + 1)
    rw [e 10 (by decide)]
    intro p hp
    by_cases c : p < np
    · exact (h 18) p c
    · have q := (h 29) p (by omega) (by omega)
      exact Or.inl q.2.2.2.2.2.2.2.1
  | 19 =>
    show ∀ p, p < np + 1 → (∃ k, k ≤ 60 ∧ (mset (mset S 2 np (nI kk)) 1 0 (nI np + 1)) 11 p = nI k) ∧ (∃ k, k ≤ 120 ∧ (mset (mset S 2 np (nI kk)) 1 0 (nI np + 1)) 12 p = nI k) ∧ ∃ k, k ≤ 9 ∧ (mset (mset S 2 np (nI kk)) 1 0 (nI np + 1)) 13 p = nI k
    rw [e 11 (by decide), e 12 (by decide), e 13 (by decide)]
    intro p hp
    by_cases c : p < np
    · exact (h 19) p c
    · have q := (h 29) p (by omega) (by omega)
      exact ⟨⟨5, by omega, q.2.2.2.2.2.2.2.2.1⟩, ⟨20, by omega, q.2.2.2.2.2.2.2.2.2.1⟩, ⟨3, by omega, q.2.2.2.2.2.2.2.2.2.2.1⟩⟩
  | 20 =>
    have q := h 20
    simp only [mJ] at q ⊢
    simp only [e 25 (by decide), e 26 (by decide), e 27 (by decide)]
    exact q
  | 21 =>
    show ∀ x, x < 8 → ∀ y, y < 8 → ∃ c, c ≤ 21 ∧ (mset (mset S 2 np (nI kk)) 1 0 (nI np + 1)) 16 (8 * x + y) = nI c ∧ (x = y → c = 0) ∧ (np + 1 ≤ x → c = 0) ∧ (np + 1 ≤ y → c = 0)
    rw [e 16 (by decide)]
    intro x hx y hy
    obtain ⟨c, a1, a2, a3, a4, a5⟩ := (h 21) x hx y hy
    exact ⟨c, a1, a2, a3, fun _ => a4 (by omega), fun _ => a5 (by omega)⟩
  | 22 =>
    have q := h 22
    simp only [mJ] at q ⊢
    simp only [e 16 (by decide)]
    exact q
  | 23 =>
    have q := h 23
    simp only [mJ] at q ⊢
    simp only [e 18 (by decide)]
    exact q
  | 24 =>
    show ∀ s, s < ns → (mset (mset S 2 np (nI kk)) 1 0 (nI np + 1)) 34 0 = nI s → ∀ k, k < 4 → ∀ p, (mset (mset S 2 np (nI kk)) 1 0 (nI np + 1)) 18 (4 * s + k) = nI p → p < np + 1 → (mset (mset S 2 np (nI kk)) 1 0 (nI np + 1)) 3 p = 1 ∧ (mset (mset S 2 np (nI kk)) 1 0 (nI np + 1)) 10 p = -5
    rw [e 34 (by decide), e 18 (by decide), e 3 (by decide), e 10 (by decide)]
    intro s hs a k hk p b hp
    refine (h 24) s hs a k hk p b ?_
    rcases (h 9) s hs k hk with c | ⟨z, hz, c⟩
    · exact absurd (b.symm.trans c) (nI_m5 (by omega))
    · have := nI_inj (by omega) (by omega) (b.symm.trans c)
      omega
  | 25 =>
    have q := h 25
    simp only [mJ] at q ⊢
    simp only [e 39 (by decide), e 34 (by decide)]
    exact q
  | 26 =>
    have q := h 26
    simp only [mJ] at q ⊢
    simp only [e 44 (by decide), e 42 (by decide)]
    exact q
  | 27 =>
    have q := h 27
    simp only [mJ] at q ⊢
    simp only [e 43 (by decide), e 45 (by decide)]
    exact q
  | 28 =>
    have q := h 28
    simp only [mJ] at q ⊢
    simp only [e 51 (by decide)]
    exact q
  | 29 =>
    have q := j29_of (S' := mset (mset S 2 np (nI kk)) 1 0 (nI np + 1)) (ns' := ns) (nd' := nd) (no' := no) (nr' := nr) (t' := t) (h 29) (fun p h1 h2 k h3 h4 => by rw [e k (by simp; omega)])
    exact fun p h1 h2 => q p (by omega) h2
  | 30 =>
    have q := h 30
    simp only [mJ] at q ⊢
    simp only [e 44 (by decide), e 34 (by decide)]
    exact q
  | 31 =>
    show ∀ p, p < np + 1 → (mset (mset S 2 np (nI kk)) 1 0 (nI np + 1)) 3 p = 1 → 0 < t
    rw [e 3 (by decide)]
    intro p hp a
    by_cases c : p < np
    · exact (h 31) p c a
    · rw [((h 29) p (by omega) (by omega)).1] at a
      exact absurd a (by decide)
  | 32 =>
    have q := h 32
    simp only [mJ] at q ⊢
    simp only [e 18 (by decide)]
    exact q
  | (n + 33) => exact trivial
theorem mI_detector {S : yS} {np ns nd no nr t : Nat} {p : Nat} (hp : p < np) (hnd : nd < 12) (h : mI S np ns nd no nr t) : mI (mset (mset (mset S 4 p (nI nd)) 20 nd 0) 19 0 (nI nd + 1)) np ns (nd + 1) no nr t := by
  have e : ∀ k, k ∉ ([4, 20, 19] : List Nat) → (mset (mset (mset S 4 p (nI nd)) 20 nd 0) 19 0 (nI nd + 1)) k = S k := fun k hk => by simp at hk; simp [mset_ne, hk]
  intro i
  match i with
  | 0 =>
    have q := h 0
    simp only [mJ] at q ⊢
    simp only [e 1 (by decide)]
    exact q
  | 1 =>
    have q := h 1
    simp only [mJ] at q ⊢
    simp only [e 17 (by decide)]
    exact q
  | 2 =>
    exact ⟨by rw [mset_same, nI_1], by omega⟩
  | 3 =>
    have q := h 3
    simp only [mJ] at q ⊢
    simp only [e 23 (by decide)]
    exact q
  | 4 =>
    have q := h 4
    simp only [mJ] at q ⊢
    simp only [e 29 (by decide)]
    exact q
  | 5 =>
    have q := h 5
    simp only [mJ] at q ⊢
    simp only [e 0 (by decide)]
    exact q
  | 6 =>
    have q := h 6
    simp only [mJ] at q ⊢
    simp only [e 2 (by decide)]
    exact q
  | 7 =>
    show ∀ q, q < np → cO ((mset (mset (mset S 4 p (nI nd)) 20 nd 0) 19 0 (nI nd + 1)) 4 q) (nd + 1)
    intro q hq
    rw [mset_ne _ _ (by decide), mset_ne _ _ (by decide), mset_at]
    split
    · exact Or.inr ⟨nd, by omega, rfl⟩
    · exact cO_mono ((h 7) q hq) (by omega)
  | 8 =>
    show ∀ q, q < nd + 1 → cO ((mset (mset (mset S 4 p (nI nd)) 20 nd 0) 19 0 (nI nd + 1)) 20 q) 201
    intro q hq
    rw [mset_ne _ _ (by decide), mset_at]
    split
    · exact Or.inr ⟨0, by omega, rfl⟩
    · rw [mset_ne _ _ (by decide)]
      exact (h 8) q (by omega)
  | 9 =>
    have q := h 9
    simp only [mJ] at q ⊢
    simp only [e 18 (by decide)]
    exact q
  | 10 =>
    have q := h 10
    simp only [mJ] at q ⊢
    simp only [e 24 (by decide)]
    exact q
  | 11 =>
    show ∀ k, k < nr → (∃ d, d < nd + 1 ∧ (mset (mset (mset S 4 p (nI nd)) 20 nd 0) 19 0 (nI nd + 1)) 30 k = nI d) ∧ ∃ d, d < nd + 1 ∧ (mset (mset (mset S 4 p (nI nd)) 20 nd 0) 19 0 (nI nd + 1)) 31 k = nI d
    rw [e 30 (by decide), e 31 (by decide)]
    intro k hk
    obtain ⟨⟨a, ha, a2⟩, ⟨b, hb, b2⟩⟩ := (h 11) k hk
    exact ⟨⟨a, by omega, a2⟩, ⟨b, by omega, b2⟩⟩
  | 12 =>
    have q := h 12
    simp only [mJ] at q ⊢
    simp only [e 34 (by decide)]
    exact q
  | 13 =>
    have q := h 13
    simp only [mJ] at q ⊢
    simp only [e 39 (by decide)]
    exact q
  | 14 =>
    have q := h 14
    simp only [mJ] at q ⊢
    simp only [e 38 (by decide)]
    exact q
  | 15 =>
    have q := h 15
    simp only [mJ] at q ⊢
    simp only [e 35 (by decide)]
    exact q
  | 16 =>
    have q := h 16
    simp only [mJ] at q ⊢
    simp only [e 14 (by decide), e 15 (by decide)]
    exact q
  | 17 =>
    have q := h 17
    simp only [mJ] at q ⊢
    simp only [e 40 (by decide)]
    exact q
  | 18 =>
    have q := h 18
    simp only [mJ] at q ⊢
    simp only [e 10 (by decide)]
    exact q
  | 19 =>
    have q := h 19
    simp only [mJ] at q ⊢
    simp only [e 11 (by decide), e 12 (by decide), e 13 (by decide)]
    exact q
  | 20 =>
    have q := h 20
    simp only [mJ] at q ⊢
    simp only [e 25 (by decide), e 26 (by decide), e 27 (by decide)]
    exact q
  | 21 =>
    have q := h 21
    simp only [mJ] at q ⊢
    simp only [e 16 (by decide)]
    exact q
  | 22 =>
    have q := h 22
    simp only [mJ] at q ⊢
    simp only [e 16 (by decide)]
    exact q
  | 23 =>
    have q := h 23
    simp only [mJ] at q ⊢
    simp only [e 18 (by decide)]
    exact q
  | 24 =>
    have q := h 24
    simp only [mJ] at q ⊢
    simp only [e 34 (by decide), e 18 (by decide), e 3 (by decide), e 10 (by decide)]
    exact q
  | 25 =>
    have q := h 25
    simp only [mJ] at q ⊢
    simp only [e 39 (by decide), e 34 (by decide)]
    exact q
  | 26 =>
    have q := h 26
    simp only [mJ] at q ⊢
    simp only [e 44 (by decide), e 42 (by decide)]
    exact q
  | 27 =>
    have q := h 27
    simp only [mJ] at q ⊢
    simp only [e 43 (by decide), e 45 (by decide)]
    exact q
  | 28 =>
    have q := h 28
    simp only [mJ] at q ⊢
    simp only [e 51 (by decide)]
    exact q
  | 29 =>
    exact j29_out (h 29) (mOut_tr (mOut_tr (mOut_set S _ (Or.inl hp)) (mOut_set _ _ (Or.inr (by decide)))) (mOut_set _ _ (Or.inr (by decide))))
  | 30 =>
    have q := h 30
    simp only [mJ] at q ⊢
    simp only [e 44 (by decide), e 34 (by decide)]
    exact q
  | 31 =>
    have q := h 31
    simp only [mJ] at q ⊢
    simp only [e 3 (by decide)]
    exact q
  | 32 =>
    have q := h 32
    simp only [mJ] at q ⊢
    simp only [e 18 (by decide)]
    exact q
  | (n + 33) => exact trivial
theorem tab_at {S : yS} {no p a b c : Nat} {u : Int32} (q : Nat) : (mset (mset (mset (mset (mset (mset S 24 no (nI p)) 25 no (nI a)) 26 no (nI b)) 27 no (nI c)) 28 no u) 23 0 (nI no + 1)) 24 q = (if q = no then nI p else S 24 q) ∧ (mset (mset (mset (mset (mset (mset S 24 no (nI p)) 25 no (nI a)) 26 no (nI b)) 27 no (nI c)) 28 no u) 23 0 (nI no + 1)) 25 q = (if q = no then nI a else S 25 q) ∧ (mset (mset (mset (mset (mset (mset S 24 no (nI p)) 25 no (nI a)) 26 no (nI b)) 27 no (nI c)) 28 no u) 23 0 (nI no + 1)) 26 q = (if q = no then nI b else S 26 q) ∧ (mset (mset (mset (mset (mset (mset S 24 no (nI p)) 25 no (nI a)) 26 no (nI b)) 27 no (nI c)) 28 no u) 23 0 (nI no + 1)) 27 q = (if q = no then nI c else S 27 q) := by
  refine ⟨?_, ?_, ?_, ?_⟩ <;> simp [mset, va_up, upd]
theorem mI_table {S : yS} {np ns nd no nr t : Nat} {p a b c : Nat} {u : Int32} (hp : p < np) (ha : a ≤ 60) (hb : b ≤ 120) (hc : c ≤ 9) (hno : no < 16) (h : mI S np ns nd no nr t) : mI (mset (mset (mset (mset (mset (mset S 24 no (nI p)) 25 no (nI a)) 26 no (nI b)) 27 no (nI c)) 28 no u) 23 0 (nI no + 1)) np ns nd (no + 1) nr t := by
  have e : ∀ k, k ∉ ([23, 24, 25, 26, 27, 28] : List Nat) → (mset (mset (mset (mset (mset (mset S 24 no (nI p)) 25 no (nI a)) 26 no (nI b)) 27 no (nI c)) 28 no u) 23 0 (nI no + 1)) k = S k := fun k hk => by simp at hk; simp [mset_ne, hk]
  intro i
  match i with
  | 0 =>
    have q := h 0
    simp only [mJ] at q ⊢
    simp only [e 1 (by decide)]
    exact q
  | 1 =>
    have q := h 1
    simp only [mJ] at q ⊢
    simp only [e 17 (by decide)]
    exact q
  | 2 =>
    have q := h 2
    simp only [mJ] at q ⊢
    simp only [e 19 (by decide)]
    exact q
  | 3 =>
    exact ⟨by rw [mset_same, nI_1], by omega⟩
  | 4 =>
    have q := h 4
    simp only [mJ] at q ⊢
    simp only [e 29 (by decide)]
    exact q
  | 5 =>
    have q := h 5
    simp only [mJ] at q ⊢
    simp only [e 0 (by decide)]
    exact q
  | 6 =>
    have q := h 6
    simp only [mJ] at q ⊢
    simp only [e 2 (by decide)]
    exact q
  | 7 =>
    have q := h 7
    simp only [mJ] at q ⊢
    simp only [e 4 (by decide)]
    exact q
  | 8 =>
    have q := h 8
    simp only [mJ] at q ⊢
    simp only [e 20 (by decide)]
    exact q
  | 9 =>
    have q := h 9
    simp only [mJ] at q ⊢
    simp only [e 18 (by decide)]
    exact q
  | 10 =>
    show ∀ k, k < no + 1 → ∃ p', p' < np ∧ (mset (mset (mset (mset (mset (mset S 24 no (nI p)) 25 no (nI a)) 26 no (nI b)) 27 no (nI c)) 28 no u) 23 0 (nI no + 1)) 24 k = nI p'
    intro k hk
    rw [(tab_at k).1]
    split
    · exact ⟨p, hp, rfl⟩
    · exact (h 10) k (by omega)
  | 11 =>
    have q := h 11
    simp only [mJ] at q ⊢
    simp only [e 30 (by decide), e 31 (by decide)]
    exact q
  | 12 =>
    have q := h 12
    simp only [mJ] at q ⊢
    simp only [e 34 (by decide)]
    exact q
  | 13 =>
    have q := h 13
    simp only [mJ] at q ⊢
    simp only [e 39 (by decide)]
    exact q
  | 14 =>
    have q := h 14
    simp only [mJ] at q ⊢
    simp only [e 38 (by decide)]
    exact q
  | 15 =>
    have q := h 15
    simp only [mJ] at q ⊢
    simp only [e 35 (by decide)]
    exact q
  | 16 =>
    have q := h 16
    simp only [mJ] at q ⊢
    simp only [e 14 (by decide), e 15 (by decide)]
    exact q
  | 17 =>
    have q := h 17
    simp only [mJ] at q ⊢
    simp only [e 40 (by decide)]
    exact q
  | 18 =>
    have q := h 18
    simp only [mJ] at q ⊢
    simp only [e 10 (by decide)]
    exact q
  | 19 =>
    have q := h 19
    simp only [mJ] at q ⊢
    simp only [e 11 (by decide), e 12 (by decide), e 13 (by decide)]
    exact q
  | 20 =>
    show ∀ k, k < no + 1 → (∃ i, i ≤ 60 ∧ (mset (mset (mset (mset (mset (mset S 24 no (nI p)) 25 no (nI a)) 26 no (nI b)) 27 no (nI c)) 28 no u) 23 0 (nI no + 1)) 25 k = nI i) ∧ (∃ i, i ≤ 120 ∧ (mset (mset (mset (mset (mset (mset S 24 no (nI p)) 25 no (nI a)) 26 no (nI b)) 27 no (nI c)) 28 no u) 23 0 (nI no + 1)) 26 k = nI i) ∧ ∃ i, i ≤ 9 ∧ (mset (mset (mset (mset (mset (mset S 24 no (nI p)) 25 no (nI a)) 26 no (nI b)) 27 no (nI c)) 28 no u) 23 0 (nI no + 1)) 27 k = nI i
    intro k hk
    rw [(tab_at k).2.1, (tab_at k).2.2.1, (tab_at k).2.2.2]
    by_cases z : k = no
    · rw [if_pos z, if_pos z, if_pos z]
      exact ⟨⟨a, ha, rfl⟩, ⟨b, hb, rfl⟩, ⟨c, hc, rfl⟩⟩
    · rw [if_neg z, if_neg z, if_neg z]
      exact (h 20) k (by omega)
  | 21 =>
    have q := h 21
    simp only [mJ] at q ⊢
    simp only [e 16 (by decide)]
    exact q
  | 22 =>
    have q := h 22
    simp only [mJ] at q ⊢
    simp only [e 16 (by decide)]
    exact q
  | 23 =>
    have q := h 23
    simp only [mJ] at q ⊢
    simp only [e 18 (by decide)]
    exact q
  | 24 =>
    have q := h 24
    simp only [mJ] at q ⊢
    simp only [e 34 (by decide), e 18 (by decide), e 3 (by decide), e 10 (by decide)]
    exact q
  | 25 =>
    have q := h 25
    simp only [mJ] at q ⊢
    simp only [e 39 (by decide), e 34 (by decide)]
    exact q
  | 26 =>
    have q := h 26
    simp only [mJ] at q ⊢
    simp only [e 44 (by decide), e 42 (by decide)]
    exact q
  | 27 =>
    have q := h 27
    simp only [mJ] at q ⊢
    simp only [e 43 (by decide), e 45 (by decide)]
    exact q
  | 28 =>
    have q := h 28
    simp only [mJ] at q ⊢
    simp only [e 51 (by decide)]
    exact q
  | 29 =>
    have q := h 29
    simp only [mJ] at q ⊢
    simp only [e 3 (by decide), e 4 (by decide), e 5 (by decide), e 6 (by decide), e 7 (by decide), e 8 (by decide), e 9 (by decide), e 10 (by decide), e 11 (by decide), e 12 (by decide), e 13 (by decide), e 14 (by decide), e 15 (by decide)]
    exact q
  | 30 =>
    have q := h 30
    simp only [mJ] at q ⊢
    simp only [e 44 (by decide), e 34 (by decide)]
    exact q
  | 31 =>
    have q := h 31
    simp only [mJ] at q ⊢
    simp only [e 3 (by decide)]
    exact q
  | 32 =>
    have q := h 32
    simp only [mJ] at q ⊢
    simp only [e 18 (by decide)]
    exact q
  | (n + 33) => exact trivial
theorem pr_at {S : yS} {nr d f : Nat} {u : Int32} (q : Nat) : (mset (mset (mset (mset (mset S 30 nr (nI d)) 31 nr (nI f)) 32 nr u) 33 nr 0) 29 0 (nI nr + 1)) 30 q = (if q = nr then nI d else S 30 q) ∧ (mset (mset (mset (mset (mset S 30 nr (nI d)) 31 nr (nI f)) 32 nr u) 33 nr 0) 29 0 (nI nr + 1)) 31 q = (if q = nr then nI f else S 31 q) := by
  refine ⟨?_, ?_⟩ <;> simp [mset, va_up, upd]
theorem mI_pair {S : yS} {np ns nd no nr t : Nat} {d f : Nat} {u : Int32} (hd : d < nd) (hf : f < nd) (hnr : nr < 6) (h : mI S np ns nd no nr t) : mI (mset (mset (mset (mset (mset S 30 nr (nI d)) 31 nr (nI f)) 32 nr u) 33 nr 0) 29 0 (nI nr + 1)) np ns nd no (nr + 1) t := by
  have e : ∀ k, k ∉ ([29, 30, 31, 32, 33] : List Nat) → (mset (mset (mset (mset (mset S 30 nr (nI d)) 31 nr (nI f)) 32 nr u) 33 nr 0) 29 0 (nI nr + 1)) k = S k := fun k hk => by simp at hk; simp [mset_ne, hk]
  intro i
  match i with
  | 0 =>
    have q := h 0
    simp only [mJ] at q ⊢
    simp only [e 1 (by decide)]
    exact q
  | 1 =>
    have q := h 1
    simp only [mJ] at q ⊢
    simp only [e 17 (by decide)]
    exact q
  | 2 =>
    have q := h 2
    simp only [mJ] at q ⊢
    simp only [e 19 (by decide)]
    exact q
  | 3 =>
    have q := h 3
    simp only [mJ] at q ⊢
    simp only [e 23 (by decide)]
    exact q
  | 4 =>
    exact ⟨by rw [mset_same, nI_1], by omega⟩
  | 5 =>
    have q := h 5
    simp only [mJ] at q ⊢
    simp only [e 0 (by decide)]
    exact q
  | 6 =>
    have q := h 6
    simp only [mJ] at q ⊢
    simp only [e 2 (by decide)]
    exact q
  | 7 =>
    have q := h 7
    simp only [mJ] at q ⊢
    simp only [e 4 (by decide)]
    exact q
  | 8 =>
    have q := h 8
    simp only [mJ] at q ⊢
    simp only [e 20 (by decide)]
    exact q
  | 9 =>
    have q := h 9
    simp only [mJ] at q ⊢
    simp only [e 18 (by decide)]
    exact q
  | 10 =>
    have q := h 10
    simp only [mJ] at q ⊢
    simp only [e 24 (by decide)]
    exact q
  | 11 =>
    show ∀ k, k < nr + 1 → (∃ x, x < nd ∧ (mset (mset (mset (mset (mset S 30 nr (nI d)) 31 nr (nI f)) 32 nr u) 33 nr 0) 29 0 (nI nr + 1)) 30 k = nI x) ∧ ∃ x, x < nd ∧ (mset (mset (mset (mset (mset S 30 nr (nI d)) 31 nr (nI f)) 32 nr u) 33 nr 0) 29 0 (nI nr + 1)) 31 k = nI x
    intro k hk
    rw [(pr_at k).1, (pr_at k).2]
    by_cases z : k = nr
    · rw [if_pos z, if_pos z]
      exact ⟨⟨d, hd, rfl⟩, ⟨f, hf, rfl⟩⟩
    · rw [if_neg z, if_neg z]
      exact (h 11) k (by omega)
  | 12 =>
    have q := h 12
    simp only [mJ] at q ⊢
    simp only [e 34 (by decide)]
    exact q
  | 13 =>
    have q := h 13
    simp only [mJ] at q ⊢
    simp only [e 39 (by decide)]
    exact q
  | 14 =>
    have q := h 14
    simp only [mJ] at q ⊢
    simp only [e 38 (by decide)]
    exact q
  | 15 =>
    have q := h 15
    simp only [mJ] at q ⊢
    simp only [e 35 (by decide)]
    exact q
  | 16 =>
    have q := h 16
    simp only [mJ] at q ⊢
    simp only [e 14 (by decide), e 15 (by decide)]
    exact q
  | 17 =>
    have q := h 17
    simp only [mJ] at q ⊢
    simp only [e 40 (by decide)]
    exact q
  | 18 =>
    have q := h 18
    simp only [mJ] at q ⊢
    simp only [e 10 (by decide)]
    exact q
  | 19 =>
    have q := h 19
    simp only [mJ] at q ⊢
    simp only [e 11 (by decide), e 12 (by decide), e 13 (by decide)]
    exact q
  | 20 =>
    have q := h 20
    simp only [mJ] at q ⊢
    simp only [e 25 (by decide), e 26 (by decide), e 27 (by decide)]
    exact q
  | 21 =>
    have q := h 21
    simp only [mJ] at q ⊢
    simp only [e 16 (by decide)]
    exact q
  | 22 =>
    have q := h 22
    simp only [mJ] at q ⊢
    simp only [e 16 (by decide)]
    exact q
  | 23 =>
    have q := h 23
    simp only [mJ] at q ⊢
    simp only [e 18 (by decide)]
    exact q
  | 24 =>
    have q := h 24
    simp only [mJ] at q ⊢
    simp only [e 34 (by decide), e 18 (by decide), e 3 (by decide), e 10 (by decide)]
    exact q
  | 25 =>
    have q := h 25
    simp only [mJ] at q ⊢
    simp only [e 39 (by decide), e 34 (by decide)]
    exact q
  | 26 =>
    have q := h 26
    simp only [mJ] at q ⊢
    simp only [e 44 (by decide), e 42 (by decide)]
    exact q
  | 27 =>
    have q := h 27
    simp only [mJ] at q ⊢
    simp only [e 43 (by decide), e 45 (by decide)]
    exact q
  | 28 =>
    have q := h 28
    simp only [mJ] at q ⊢
    simp only [e 51 (by decide)]
    exact q
  | 29 =>
    have q := h 29
    simp only [mJ] at q ⊢
    simp only [e 3 (by decide), e 4 (by decide), e 5 (by decide), e 6 (by decide), e 7 (by decide), e 8 (by decide), e 9 (by decide), e 10 (by decide), e 11 (by decide), e 12 (by decide), e 13 (by decide), e 14 (by decide), e 15 (by decide)]
    exact q
  | 30 =>
    have q := h 30
    simp only [mJ] at q ⊢
    simp only [e 44 (by decide), e 34 (by decide)]
    exact q
  | 31 =>
    have q := h 31
    simp only [mJ] at q ⊢
    simp only [e 3 (by decide)]
    exact q
  | 32 =>
    have q := h 32
    simp only [mJ] at q ⊢
    simp only [e 18 (by decide)]
    exact q
  | (n + 33) => exact trivial
theorem mI_four {S : yS} {np ns nd no nr t : Nat} (a b c d : Int32) (h : mI S np ns nd no nr t) : mI (m_four S a b c d) np ns nd no nr t := by
  have e : ∀ k, k ∉ ([52] : List Nat) → (m_four S a b c d) k = S k := fun k hk => m_four_rw S a b c d k hk
  intro i
  match i with
  | 0 =>
    have q := h 0
    simp only [mJ] at q ⊢
    simp only [e 1 (by decide)]
    exact q
  | 1 =>
    have q := h 1
    simp only [mJ] at q ⊢
    simp only [e 17 (by decide)]
    exact q
  | 2 =>
    have q := h 2
    simp only [mJ] at q ⊢
    simp only [e 19 (by decide)]
    exact q
  | 3 =>
    have q := h 3
    simp only [mJ] at q ⊢
    simp only [e 23 (by decide)]
    exact q
  | 4 =>
    have q := h 4
    simp only [mJ] at q ⊢
    simp only [e 29 (by decide)]
    exact q
  | 5 =>
    have q := h 5
    simp only [mJ] at q ⊢
    simp only [e 0 (by decide)]
    exact q
  | 6 =>
    have q := h 6
    simp only [mJ] at q ⊢
    simp only [e 2 (by decide)]
    exact q
  | 7 =>
    have q := h 7
    simp only [mJ] at q ⊢
    simp only [e 4 (by decide)]
    exact q
  | 8 =>
    have q := h 8
    simp only [mJ] at q ⊢
    simp only [e 20 (by decide)]
    exact q
  | 9 =>
    have q := h 9
    simp only [mJ] at q ⊢
    simp only [e 18 (by decide)]
    exact q
  | 10 =>
    have q := h 10
    simp only [mJ] at q ⊢
    simp only [e 24 (by decide)]
    exact q
  | 11 =>
    have q := h 11
    simp only [mJ] at q ⊢
    simp only [e 30 (by decide), e 31 (by decide)]
    exact q
  | 12 =>
    have q := h 12
    simp only [mJ] at q ⊢
    simp only [e 34 (by decide)]
    exact q
  | 13 =>
    have q := h 13
    simp only [mJ] at q ⊢
    simp only [e 39 (by decide)]
    exact q
  | 14 =>
    have q := h 14
    simp only [mJ] at q ⊢
    simp only [e 38 (by decide)]
    exact q
  | 15 =>
    have q := h 15
    simp only [mJ] at q ⊢
    simp only [e 35 (by decide)]
    exact q
  | 16 =>
    have q := h 16
    simp only [mJ] at q ⊢
    simp only [e 14 (by decide), e 15 (by decide)]
    exact q
  | 17 =>
    have q := h 17
    simp only [mJ] at q ⊢
    simp only [e 40 (by decide)]
    exact q
  | 18 =>
    have q := h 18
    simp only [mJ] at q ⊢
    simp only [e 10 (by decide)]
    exact q
  | 19 =>
    have q := h 19
    simp only [mJ] at q ⊢
    simp only [e 11 (by decide), e 12 (by decide), e 13 (by decide)]
    exact q
  | 20 =>
    have q := h 20
    simp only [mJ] at q ⊢
    simp only [e 25 (by decide), e 26 (by decide), e 27 (by decide)]
    exact q
  | 21 =>
    have q := h 21
    simp only [mJ] at q ⊢
    simp only [e 16 (by decide)]
    exact q
  | 22 =>
    have q := h 22
    simp only [mJ] at q ⊢
    simp only [e 16 (by decide)]
    exact q
  | 23 =>
    have q := h 23
    simp only [mJ] at q ⊢
    simp only [e 18 (by decide)]
    exact q
  | 24 =>
    have q := h 24
    simp only [mJ] at q ⊢
    simp only [e 34 (by decide), e 18 (by decide), e 3 (by decide), e 10 (by decide)]
    exact q
  | 25 =>
    have q := h 25
    simp only [mJ] at q ⊢
    simp only [e 39 (by decide), e 34 (by decide)]
    exact q
  | 26 =>
    have q := h 26
    simp only [mJ] at q ⊢
    simp only [e 44 (by decide), e 42 (by decide)]
    exact q
  | 27 =>
    have q := h 27
    simp only [mJ] at q ⊢
    simp only [e 43 (by decide), e 45 (by decide)]
    exact q
  | 28 =>
    have q := h 28
    simp only [mJ] at q ⊢
    simp only [e 51 (by decide)]
    exact q
  | 29 =>
    have q := h 29
    simp only [mJ] at q ⊢
    simp only [e 3 (by decide), e 4 (by decide), e 5 (by decide), e 6 (by decide), e 7 (by decide), e 8 (by decide), e 9 (by decide), e 10 (by decide), e 11 (by decide), e 12 (by decide), e 13 (by decide), e 14 (by decide), e 15 (by decide)]
    exact q
  | 30 =>
    have q := h 30
    simp only [mJ] at q ⊢
    simp only [e 44 (by decide), e 34 (by decide)]
    exact q
  | 31 =>
    have q := h 31
    simp only [mJ] at q ⊢
    simp only [e 3 (by decide)]
    exact q
  | 32 =>
    have q := h 32
    simp only [mJ] at q ⊢
    simp only [e 18 (by decide)]
    exact q
  | (n + 33) => exact trivial
theorem stI_ne {X : yS} {p : Int32} : ∀ (j k : Nat) (m m' : Bool), m_stI X p j k m = some m' → ∀ q, k ≤ q → q < k + j → X 52 q ≠ p
  | 0, k, _, _, _, q, h1, h2 => by omega
  | j + 1, k, m, m', h, q, h1, h2 => by
    unfold m_stI at h
    by_cases c : X 52 k = p
    · rw [if_pos c] at h
      cases h
    · rw [if_neg c] at h
      by_cases d : q = k
      · rw [d]
        exact c
      · exact stI_ne j (k + 1) _ m' h q (by omega) (by omega)
theorem stO_all {X : yS} : ∀ (j i : Nat) (a m any me : Bool), m_stO X j i a m = some (any, me) → (∀ k, i ≤ k → k < i + j → X 52 k = -5 ∨ (m_isP X (X 52 k) = true ∧ ∀ q, q < k → X 52 q ≠ X 52 k)) ∧ (any = true → a = true ∨ ∃ k, i ≤ k ∧ k < i + j ∧ X 52 k ≠ -5)
  | 0, i, a, m, any, me, h => by
    unfold m_stO at h
    cases h
    exact ⟨fun k h1 h2 => by omega, fun q => Or.inl q⟩
  | j + 1, i, a, m, any, me, h => by
    unfold m_stO at h
    by_cases c : X 52 i = -5
    · rw [if_pos c] at h
      obtain ⟨r1, r2⟩ := stO_all j (i + 1) a m any me h
      refine ⟨fun k h1 h2 => ?_, fun q => ?_⟩
      · by_cases d : k = i
        · rw [d]
          exact Or.inl c
        · exact r1 k (by omega) (by omega)
      · rcases r2 q with z | ⟨k, h1, h2, h3⟩
        · exact Or.inl z
        · exact Or.inr ⟨k, by omega, by omega, h3⟩
    · rw [if_neg c] at h
      by_cases c2 : m_isP X (X 52 i) = true
      · rw [if_pos c2] at h
        cases hs : m_stI X (X 52 i) i 0 m with
        | none =>
          rw [hs] at h
          cases h
        | some m2 =>
          rw [hs] at h
          obtain ⟨r1, r2⟩ := stO_all j (i + 1) true m2 any me h
          refine ⟨fun k h1 h2 => ?_, fun _ => Or.inr ⟨i, Nat.le_refl i, by omega, c⟩⟩
          by_cases d : k = i
          · subst d
            exact Or.inr ⟨c2, fun q hq => stI_ne k 0 m m2 hs q (by omega) (by omega)⟩
          · exact r1 k (by omega) (by omega)
      · rw [if_neg c2] at h
        cases h
theorem plL_18 (n : Nat) : ∀ (j i : Nat) (V : yS) (q : Nat), m_plL n j i V 18 q = if 4 * n + i ≤ q ∧ q < 4 * n + i + j then V 52 (q - 4 * n) else V 18 q
  | 0, i, V, q => by
    rw [if_neg (by omega)]
    rfl
  | j + 1, i, V, q => by
    show m_plL n j (i + 1) (mset V 18 (4 * n + i) (V 52 i)) 18 q = _
    rw [plL_18 n j (i + 1), mset_ne _ _ (show (52 : Nat) ≠ 18 by decide), mset_at]
    by_cases c : q = 4 * n + i
    · rw [if_neg (by omega), if_pos c, if_pos (by omega), show q - 4 * n = i by omega]
    · rw [if_neg c]
      by_cases d : 4 * n + (i + 1) ≤ q ∧ q < 4 * n + (i + 1) + j
      · rw [if_pos d, if_pos (by omega)]
      · rw [if_neg d, if_neg (by omega)]
/-- the places of a new stage are well made -/
def stOk (X : yS) (np : Nat) : Prop := (∀ k, k < 4 → X 52 k = -5 ∨ ((∃ p, p < np ∧ X 52 k = nI p) ∧ ∀ q, q < k → X 52 q ≠ X 52 k)) ∧ ∃ k, k < 4 ∧ X 52 k ≠ -5
theorem stOk_of {X : yS} {np : Nat} {me : Bool} (h0 : X 1 0 = nI np ∧ np ≤ 8) (h : m_stO X 4 0 false false = some (true, me)) : stOk X np := by
  obtain ⟨a, b⟩ := stO_all 4 0 false false true me h
  refine ⟨fun k hk => ?_, ?_⟩
  · rcases a k (by omega) (by omega) with c | ⟨c, d⟩
    · exact Or.inl c
    · refine Or.inr ⟨?_, d⟩
      unfold m_isP at c
      rw [h0.1] at c
      exact m_in_ix (by omega) c
  · rcases b rfl with z | ⟨k, _, h2, h3⟩
    · cases z
    · exact ⟨k, by omega, h3⟩
theorem st_at {S : yS} {ns : Nat} (s k : Nat) (hk : k < 4) : (mset (m_plL ns 4 0 S) 17 0 (nI ns + 1)) 18 (4 * s + k) = if s = ns then S 52 k else S 18 (4 * s + k) := by
  rw [mset_ne _ _ (by decide), plL_18]
  by_cases c : s = ns
  · subst c
    rw [if_pos (by omega), if_pos rfl, show 4 * s + k - 4 * s = k by omega]
  · rw [if_neg (by omega), if_neg c]
theorem mDst_stage {S : yS} {np ns : Nat} (ho : stOk S np) (h : mDst S ns) : mDst (mset (m_plL ns 4 0 S) 17 0 (nI ns + 1)) (ns + 1) := by
  intro s hs k k' h1 h2 p hp e1 e2
  rw [st_at s k (by omega)] at e1
  rw [st_at s k' h2] at e2
  by_cases c : s = ns
  · rw [if_pos c] at e1 e2
    rcases ho.1 k' h2 with z | ⟨_, z⟩
    · exact nI_m5 (by omega) (e2.symm.trans z)
    · exact z k h1 (e1.trans e2.symm)
  · rw [if_neg c] at e1 e2
    exact h s (by omega) k k' h1 h2 p hp e1 e2
theorem mI_stage {S : yS} {np ns nd no nr t : Nat} (hns : ns < 6) (ho : stOk S np) (h : mI S np ns nd no nr t) : mI (mset (m_plL ns 4 0 S) 17 0 (nI ns + 1)) np (ns + 1) nd no nr t := by
  have e : ∀ k, k ∉ ([17, 18] : List Nat) → (mset (m_plL ns 4 0 S) 17 0 (nI ns + 1)) k = S k := fun k hk => by
    simp at hk
    rw [mset_ne _ _ hk.1, m_plL_rw ns 4 0 S k (by simpa using hk.2)]
  intro i
  match i with
  | 0 =>
    have q := h 0
    simp only [mJ] at q ⊢
    simp only [e 1 (by decide)]
    exact q
  | 1 =>
    exact ⟨by rw [mset_same, nI_1], by omega⟩
  | 2 =>
    have q := h 2
    simp only [mJ] at q ⊢
    simp only [e 19 (by decide)]
    exact q
  | 3 =>
    have q := h 3
    simp only [mJ] at q ⊢
    simp only [e 23 (by decide)]
    exact q
  | 4 =>
    have q := h 4
    simp only [mJ] at q ⊢
    simp only [e 29 (by decide)]
    exact q
  | 5 =>
    have q := h 5
    simp only [mJ] at q ⊢
    simp only [e 0 (by decide)]
    exact q
  | 6 =>
    have q := h 6
    simp only [mJ] at q ⊢
    simp only [e 2 (by decide)]
    exact q
  | 7 =>
    have q := h 7
    simp only [mJ] at q ⊢
    simp only [e 4 (by decide)]
    exact q
  | 8 =>
    have q := h 8
    simp only [mJ] at q ⊢
    simp only [e 20 (by decide)]
    exact q
  | 9 =>
    show ∀ s, s < ns + 1 → ∀ k, k < 4 → cO ((mset (m_plL ns 4 0 S) 17 0 (nI ns + 1)) 18 (4 * s + k)) np
    intro s hs k hk
    rw [st_at s k hk]
    split
    · rcases ho.1 k hk with z | ⟨⟨p, hp, z⟩, _⟩
      · exact Or.inl z
      · exact Or.inr ⟨p, hp, z⟩
    · exact (h 9) s (by omega) k hk
  | 10 =>
    have q := h 10
    simp only [mJ] at q ⊢
    simp only [e 24 (by decide)]
    exact q
  | 11 =>
    have q := h 11
    simp only [mJ] at q ⊢
    simp only [e 30 (by decide), e 31 (by decide)]
    exact q
  | 12 =>
    show cO ((mset (m_plL ns 4 0 S) 17 0 (nI ns + 1)) 34 0) (ns + 1)
    rw [e 34 (by decide)]
    exact cO_mono (h 12) (by omega)
  | 13 =>
    show cO ((mset (m_plL ns 4 0 S) 17 0 (nI ns + 1)) 39 0) (ns + 1)
    rw [e 39 (by decide)]
    exact cO_mono (h 13) (by omega)
  | 14 =>
    show (mset (m_plL ns 4 0 S) 17 0 (nI ns + 1)) 38 0 = -1 ∨ ∃ s, s < ns + 1 ∧ (mset (m_plL ns 4 0 S) 17 0 (nI ns + 1)) 38 0 = nI s
    rw [e 38 (by decide)]
    rcases h 14 with z | ⟨s, hs, z⟩
    · exact Or.inl z
    · exact Or.inr ⟨s, by omega, z⟩
  | 15 =>
    have q := h 15
    simp only [mJ] at q ⊢
    simp only [e 35 (by decide)]
    exact q
  | 16 =>
    have q := h 16
    simp only [mJ] at q ⊢
    simp only [e 14 (by decide), e 15 (by decide)]
    exact q
  | 17 =>
    have q := h 17
    simp only [mJ] at q ⊢
    simp only [e 40 (by decide)]
    exact q
  | 18 =>
    have q := h 18
    simp only [mJ] at q ⊢
    simp only [e 10 (by decide)]
    exact q
  | 19 =>
    have q := h 19
    simp only [mJ] at q ⊢
    simp only [e 11 (by decide), e 12 (by decide), e 13 (by decide)]
    exact q
  | 20 =>
    have q := h 20
    simp only [mJ] at q ⊢
    simp only [e 25 (by decide), e 26 (by decide), e 27 (by decide)]
    exact q
  | 21 =>
    have q := h 21
    simp only [mJ] at q ⊢
    simp only [e 16 (by decide)]
    exact q
  | 22 =>
    have q := h 22
    simp only [mJ] at q ⊢
    simp only [e 16 (by decide)]
    exact q
  | 23 =>
    show ∀ s, s < ns + 1 → ∃ k, k < 4 ∧ (mset (m_plL ns 4 0 S) 17 0 (nI ns + 1)) 18 (4 * s + k) ≠ -5
    intro s hs
    by_cases c : s = ns
    · obtain ⟨k, hk, z⟩ := ho.2
      exact ⟨k, hk, by rw [st_at s k hk, if_pos c]; exact z⟩
    · obtain ⟨k, hk, z⟩ := (h 23) s (by omega)
      exact ⟨k, hk, by rw [st_at s k hk, if_neg c]; exact z⟩
  | 24 =>
    show ∀ s, s < ns + 1 → (mset (m_plL ns 4 0 S) 17 0 (nI ns + 1)) 34 0 = nI s → ∀ k, k < 4 → ∀ p, (mset (m_plL ns 4 0 S) 17 0 (nI ns + 1)) 18 (4 * s + k) = nI p → p < np → (mset (m_plL ns 4 0 S) 17 0 (nI ns + 1)) 3 p = 1 ∧ (mset (m_plL ns 4 0 S) 17 0 (nI ns + 1)) 10 p = -5
    rw [e 34 (by decide), e 3 (by decide), e 10 (by decide)]
    intro s hs a k hk p b hp
    have c : s ≠ ns := by
      intro c
      rcases h 12 with z | ⟨y, hy, z⟩
      · exact nI_m5 (by omega) (a.symm.trans z)
      · have := nI_inj (by omega) (by omega) (a.symm.trans z)
        omega
    rw [st_at s k hk, if_neg c] at b
    exact (h 24) s (by omega) a k hk p b hp
  | 25 =>
    show ∀ s, s < ns + 1 → (mset (m_plL ns 4 0 S) 17 0 (nI ns + 1)) 39 0 = nI s → (mset (m_plL ns 4 0 S) 17 0 (nI ns + 1)) 34 0 ≠ nI s
    rw [e 39 (by decide), e 34 (by decide)]
    intro s hs a
    by_cases c : s = ns
    · rcases h 13 with z | ⟨y, hy, z⟩
      · exact absurd (a.symm.trans z) (nI_m5 (by omega))
      · have := nI_inj (by omega) (by omega) (a.symm.trans z)
        omega
    · exact (h 25) s (by omega) a
  | 26 =>
    have q := h 26
    simp only [mJ] at q ⊢
    simp only [e 44 (by decide), e 42 (by decide)]
    exact q
  | 27 =>
    have q := h 27
    simp only [mJ] at q ⊢
    simp only [e 43 (by decide), e 45 (by decide)]
    exact q
  | 28 =>
    have q := h 28
    simp only [mJ] at q ⊢
    simp only [e 51 (by decide)]
    exact q
  | 29 =>
    have q := h 29
    simp only [mJ] at q ⊢
    simp only [e 3 (by decide), e 4 (by decide), e 5 (by decide), e 6 (by decide), e 7 (by decide), e 8 (by decide), e 9 (by decide), e 10 (by decide), e 11 (by decide), e 12 (by decide), e 13 (by decide), e 14 (by decide), e 15 (by decide)]
    exact q
  | 30 =>
    have q := h 30
    simp only [mJ] at q ⊢
    simp only [e 44 (by decide), e 34 (by decide)]
    exact q
  | 31 =>
    have q := h 31
    simp only [mJ] at q ⊢
    simp only [e 3 (by decide)]
    exact q
  | 32 =>
    exact mDst_stage ho (h 32)
  | (n + 33) => exact trivial
/-! a second keeps the invariant -/
def oA (X : yS) (np k : Nat) : Prop := (∃ p, p < np ∧ X 24 k = nI p) ∧ (∃ i, i ≤ 60 ∧ X 25 k = nI i) ∧ (∃ i, i ≤ 120 ∧ X 26 k = nI i) ∧ ∃ i, i ≤ 9 ∧ X 27 k = nI i
def oP (X : yS) (np : Nat) : Prop := ∀ p, p < np → (∃ k, k ≤ 60 ∧ X 11 p = nI k) ∧ (∃ k, k ≤ 120 ∧ X 12 p = nI k) ∧ ∃ k, k ≤ 9 ∧ X 13 p = nI k
theorem oA_rows {X X' : yS} {np k : Nat} (h : oA X np k) (h24 : X' 24 k = X 24 k) (h25 : X' 25 k = X 25 k) (h26 : X' 26 k = X 26 k) (h27 : X' 27 k = X 27 k) : oA X' np k := by
  unfold oA
  rw [h24, h25, h26, h27]
  exact h
theorem ord2_at (S : yS) (n k : Nat) {q r : Nat} (h1 : 24 ≤ q) (h2 : q ≤ 28) : m_ord2 S n k q r = if r = n then S q k else S q r := by
  unfold m_ord2
  rcases (by omega : q = 24 ∨ q = 25 ∨ q = 26 ∨ q = 27 ∨ q = 28) with rfl | rfl | rfl | rfl | rfl <;> simp [mset, va_up, upd]
theorem ord2_ne (S : yS) (n k : Nat) {q : Nat} (h : ¬ (24 ≤ q ∧ q ≤ 28)) : m_ord2 S n k q = S q := by
  unfold m_ord2
  rw [mset_ne _ _ (by omega), mset_ne _ _ (by omega), mset_ne _ _ (by omega), mset_ne _ _ (by omega), mset_ne _ _ (by omega)]
theorem ord1_at (S : yS) (k : Nat) (p : Nat) : m_ord1 S k 11 p = (if p = ix (S 24 k) then S 25 k else S 11 p) ∧ m_ord1 S k 12 p = (if p = ix (S 24 k) then S 26 k else S 12 p) ∧ m_ord1 S k 13 p = (if p = ix (S 24 k) then S 27 k else S 13 p) := by
  unfold m_ord1
  refine ⟨?_, ?_, ?_⟩ <;> simp [mset, va_up, upd]
theorem ordL_keep {np : Nat} (hn : np ≤ 8) : ∀ (j i n : Nat) (X : yS), n ≤ i → (∀ k, k < n → oA X np k) → (∀ k, i ≤ k → k < i + j → oA X np k) → oP X np → ∃ n2, n2 ≤ n + j ∧ m_ordL j i n X 23 0 = nI n2 ∧ (∀ k, k < n2 → oA (m_ordL j i n X) np k) ∧ oP (m_ordL j i n X) np ∧ mOut np X (m_ordL j i n X)
  | 0, i, n, X, _, h1, _, h3 => by
    refine ⟨n, by omega, mset_same _ _ _ _, fun k hk => ?_, ?_, mOut_set X _ (Or.inr (by decide))⟩
    · refine oA_rows (h1 k hk) ?_ ?_ ?_ ?_ <;> rw [m_ordL, mset_ne _ _ (by decide)]
    · unfold oP
      rw [m_ordL, mset_ne _ _ (by decide), mset_ne _ _ (by decide), mset_ne _ _ (by decide)]
      exact h3
  | j + 1, i, n, X, hni, h1, h2, h3 => by
    obtain ⟨⟨p, hp, e24⟩, q1, q2, q3⟩ := h2 i (Nat.le_refl i) (by omega)
    have eix : ix (X 24 i) = p := by rw [e24, ix_nI (by omega)]
    unfold m_ordL
    by_cases c : X 28 i = X 0 0
    · rw [if_pos c]
      have r : ∀ k, oA X np k → oA (m_ord1 X i) np k := fun k hk => oA_rows hk (by rw [m_ord1_at X i (by decide)]) (by rw [m_ord1_at X i (by decide)]) (by rw [m_ord1_at X i (by decide)]) (by rw [m_ord1_at X i (by decide)])
      obtain ⟨n2, a1, a2, a3, a4, a5⟩ := ordL_keep hn j (i + 1) n (m_ord1 X i) (by omega) (fun k hk => r k (h1 k hk)) (fun k b1 b2 => r k (h2 k (by omega) (by omega))) (fun z hz => by
        obtain ⟨s1, s2, s3⟩ := ord1_at X i z
        rw [s1, s2, s3]
        by_cases d : z = ix (X 24 i)
        · rw [if_pos d, if_pos d, if_pos d]
          exact ⟨q1, q2, q3⟩
        · rw [if_neg d, if_neg d, if_neg d]
          exact h3 z hz)
      refine ⟨n2, by omega, a2, a3, a4, mOut_tr ?_ a5⟩
      unfold m_ord1
      rw [eix]
      exact mOut_tr (mOut_tr (mOut_set X _ (Or.inl hp)) (mOut_set _ _ (Or.inl hp))) (mOut_set _ _ (Or.inl hp))
    · rw [if_neg c]
      obtain ⟨n2, a1, a2, a3, a4, a5⟩ := ordL_keep hn j (i + 1) (n + 1) (m_ord2 X n i) (by omega) (fun k hk => by
        unfold oA
        rw [ord2_at X n i (by decide) (by decide), ord2_at X n i (by decide) (by decide), ord2_at X n i (by decide) (by decide), ord2_at X n i (by decide) (by decide)]
        by_cases d : k = n
        · rw [if_pos d, if_pos d, if_pos d, if_pos d]
          exact ⟨⟨p, hp, e24⟩, q1, q2, q3⟩
        · rw [if_neg d, if_neg d, if_neg d, if_neg d]
          exact h1 k (by omega)) (fun k b1 b2 => by
        unfold oA
        rw [ord2_at X n i (by decide) (by decide), ord2_at X n i (by decide) (by decide), ord2_at X n i (by decide) (by decide), ord2_at X n i (by decide) (by decide), if_neg (by omega), if_neg (by omega), if_neg (by omega), if_neg (by omega)]
        exact h2 k (by omega) (by omega)) (fun z hz => by
        rw [ord2_ne X n i (by decide), ord2_ne X n i (by decide), ord2_ne X n i (by decide)]
        exact h3 z hz)
      exact ⟨n2, by omega, a2, a3, a4, mOut_tr (fun z _ _ k hk => by rw [ord2_ne X n i (by omega)]) a5⟩
theorem mI_ord {S : yS} {np ns nd no nr t : Nat} {n2 : Nat} (hn2 : n2 ≤ no) (h23 : m_doOrders S no 23 0 = nI n2) (hA : ∀ k, k < n2 → oA (m_doOrders S no) np k) (hO : oP (m_doOrders S no) np) (hU : mOut np S (m_doOrders S no)) (h : mI S np ns nd no nr t) : mI (m_doOrders S no) np ns nd n2 nr t := by
  have e : ∀ k, k ∉ ([11, 12, 13, 23, 24, 25, 26, 27, 28] : List Nat) → (m_doOrders S no) k = S k := fun k hk => m_doOrders_rw S no k hk
  intro i
  match i with
  | 0 =>
    have q := h 0
    simp only [mJ] at q ⊢
    simp only [e 1 (by decide)]
    exact q
  | 1 =>
    have q := h 1
    simp only [mJ] at q ⊢
    simp only [e 17 (by decide)]
    exact q
  | 2 =>
    have q := h 2
    simp only [mJ] at q ⊢
    simp only [e 19 (by decide)]
    exact q
  | 3 =>
    exact ⟨h23, by have : no ≤ 16 := (h 3).2; omega⟩
  | 4 =>
    have q := h 4
    simp only [mJ] at q ⊢
    simp only [e 29 (by decide)]
    exact q
  | 5 =>
    have q := h 5
    simp only [mJ] at q ⊢
    simp only [e 0 (by decide)]
    exact q
  | 6 =>
    have q := h 6
    simp only [mJ] at q ⊢
    simp only [e 2 (by decide)]
    exact q
  | 7 =>
    have q := h 7
    simp only [mJ] at q ⊢
    simp only [e 4 (by decide)]
    exact q
  | 8 =>
    have q := h 8
    simp only [mJ] at q ⊢
    simp only [e 20 (by decide)]
    exact q
  | 9 =>
    have q := h 9
    simp only [mJ] at q ⊢
    simp only [e 18 (by decide)]
    exact q
  | 10 =>
    exact fun k hk => (hA k hk).1
  | 11 =>
    have q := h 11
    simp only [mJ] at q ⊢
    simp only [e 30 (by decide), e 31 (by decide)]
    exact q
  | 12 =>
    have q := h 12
    simp only [mJ] at q ⊢
    simp only [e 34 (by decide)]
    exact q
  | 13 =>
    have q := h 13
    simp only [mJ] at q ⊢
    simp only [e 39 (by decide)]
    exact q
  | 14 =>
    have q := h 14
    simp only [mJ] at q ⊢
    simp only [e 38 (by decide)]
    exact q
  | 15 =>
    have q := h 15
    simp only [mJ] at q ⊢
    simp only [e 35 (by decide)]
    exact q
  | 16 =>
    have q := h 16
    simp only [mJ] at q ⊢
    simp only [e 14 (by decide), e 15 (by decide)]
    exact q
  | 17 =>
    have q := h 17
    simp only [mJ] at q ⊢
    simp only [e 40 (by decide)]
    exact q
  | 18 =>
    have q := h 18
    simp only [mJ] at q ⊢
    simp only [e 10 (by decide)]
    exact q
  | 19 =>
    exact hO
  | 20 =>
    exact fun k hk => (hA k hk).2
  | 21 =>
    have q := h 21
    simp only [mJ] at q ⊢
    simp only [e 16 (by decide)]
    exact q
  | 22 =>
    have q := h 22
    simp only [mJ] at q ⊢
    simp only [e 16 (by decide)]
    exact q
  | 23 =>
    have q := h 23
    simp only [mJ] at q ⊢
    simp only [e 18 (by decide)]
    exact q
  | 24 =>
    have q := h 24
    simp only [mJ] at q ⊢
    simp only [e 34 (by decide), e 18 (by decide), e 3 (by decide), e 10 (by decide)]
    exact q
  | 25 =>
    have q := h 25
    simp only [mJ] at q ⊢
    simp only [e 39 (by decide), e 34 (by decide)]
    exact q
  | 26 =>
    have q := h 26
    simp only [mJ] at q ⊢
    simp only [e 44 (by decide), e 42 (by decide)]
    exact q
  | 27 =>
    have q := h 27
    simp only [mJ] at q ⊢
    simp only [e 43 (by decide), e 45 (by decide)]
    exact q
  | 28 =>
    have q := h 28
    simp only [mJ] at q ⊢
    simp only [e 51 (by decide)]
    exact q
  | 29 =>
    exact j29_out (h 29) hU
  | 30 =>
    have q := h 30
    simp only [mJ] at q ⊢
    simp only [e 44 (by decide), e 34 (by decide)]
    exact q
  | 31 =>
    have q := h 31
    simp only [mJ] at q ⊢
    simp only [e 3 (by decide)]
    exact q
  | 32 =>
    have q := h 32
    simp only [mJ] at q ⊢
    simp only [e 18 (by decide)]
    exact q
  | (n + 33) => exact trivial
theorem mI_doOrders {S : yS} {np ns nd no nr t : Nat} (h : mI S np ns nd no nr t) : ∃ n2, n2 ≤ no ∧ mI (m_doOrders S no) np ns nd n2 nr t := by
  obtain ⟨n2, a1, a2, a3, a4, a5⟩ := ordL_keep (np := np) ((h 0).2) no 0 0 S (Nat.le_refl 0) (fun k hk => by omega) (fun k _ hk => ⟨(h 10) k (by omega), (h 20) k (by omega)⟩) (h 19)
  exact ⟨n2, by omega, mI_ord (by omega) a2 a3 a4 a5 h⟩
theorem bI_01 (b : Bool) : bI b = 0 ∨ bI b = 1 := by cases b <;> simp [bI]
theorem rd_15 {S : yS} {i : Nat} (p : Nat) (h : S 15 p = 0 ∨ S 15 p = 1) : m_rd S i 15 p = 0 ∨ m_rd S i 15 p = 1 := by
  have r1 := m_doesHold_rw S i
  have r2 := m_doesAsk_rw S i
  unfold m_rd
  repeat' split
  · rw [mset_at]
    split
    · exact bI_01 _
    · rw [r1 15 (by decide)]
      exact h
  · exact h
  · exact h
  · rw [mset_ne _ _ (by decide), r2 15 (by decide)]
    exact h
  · rw [r2 15 (by decide)]
    exact h
theorem rdL_15 (p : Nat) : ∀ (j i : Nat) {S : yS}, (S 15 p = 0 ∨ S 15 p = 1) → (m_rdL j i S 15 p = 0 ∨ m_rdL j i S 15 p = 1)
  | 0, _, _, h => h
  | j + 1, i, _, h => rdL_15 p j (i + 1) (rd_15 p h)
theorem mI_readAll {S : yS} {np ns nd no nr t : Nat} (h : mI S np ns nd no nr t) : mI (m_readAll S np nr) np ns nd no nr t := by
  have e : ∀ k, k ∉ ([10, 15, 33, 46, 47, 48, 50] : List Nat) → (m_readAll S np nr) k = S k := fun k hk => m_readAll_rw S np nr k hk
  intro i
  match i with
  | 0 =>
    have q := h 0
    simp only [mJ] at q ⊢
    simp only [e 1 (by decide)]
    exact q
  | 1 =>
    have q := h 1
    simp only [mJ] at q ⊢
    simp only [e 17 (by decide)]
    exact q
  | 2 =>
    have q := h 2
    simp only [mJ] at q ⊢
    simp only [e 19 (by decide)]
    exact q
  | 3 =>
    have q := h 3
    simp only [mJ] at q ⊢
    simp only [e 23 (by decide)]
    exact q
  | 4 =>
    have q := h 4
    simp only [mJ] at q ⊢
    simp only [e 29 (by decide)]
    exact q
  | 5 =>
    have q := h 5
    simp only [mJ] at q ⊢
    simp only [e 0 (by decide)]
    exact q
  | 6 =>
    have q := h 6
    simp only [mJ] at q ⊢
    simp only [e 2 (by decide)]
    exact q
  | 7 =>
    have q := h 7
    simp only [mJ] at q ⊢
    simp only [e 4 (by decide)]
    exact q
  | 8 =>
    have q := h 8
    simp only [mJ] at q ⊢
    simp only [e 20 (by decide)]
    exact q
  | 9 =>
    have q := h 9
    simp only [mJ] at q ⊢
    simp only [e 18 (by decide)]
    exact q
  | 10 =>
    have q := h 10
    simp only [mJ] at q ⊢
    simp only [e 24 (by decide)]
    exact q
  | 11 =>
    have q := h 11
    simp only [mJ] at q ⊢
    simp only [e 30 (by decide), e 31 (by decide)]
    exact q
  | 12 =>
    have q := h 12
    simp only [mJ] at q ⊢
    simp only [e 34 (by decide)]
    exact q
  | 13 =>
    have q := h 13
    simp only [mJ] at q ⊢
    simp only [e 39 (by decide)]
    exact q
  | 14 =>
    have q := h 14
    simp only [mJ] at q ⊢
    simp only [e 38 (by decide)]
    exact q
  | 15 =>
    have q := h 15
    simp only [mJ] at q ⊢
    simp only [e 35 (by decide)]
    exact q
  | 16 =>
    show ∀ p, p < np → ((m_readAll S np nr) 14 p = 0 ∨ (m_readAll S np nr) 14 p = 1) ∧ ((m_readAll S np nr) 15 p = 0 ∨ (m_readAll S np nr) 15 p = 1)
    rw [e 14 (by decide), show (m_readAll S np nr) 15 = m_rdL np 0 S 15 from m_prL_rw nr 0 (m_rdL np 0 S) 15 (by decide)]
    exact fun p hp => ⟨((h 16) p hp).1, rdL_15 p np 0 ((h 16) p hp).2⟩
  | 17 =>
    have q := h 17
    simp only [mJ] at q ⊢
    simp only [e 40 (by decide)]
    exact q
  | 18 =>
    show ∀ p, p < np → cO ((m_readAll S np nr) 10 p) (t + 1)
    rw [show (m_readAll S np nr) 10 = m_rdL np 0 S 10 from m_prL_rw nr 0 (m_rdL np 0 S) 10 (by decide)]
    exact m_rdL_ask np 0 (h 5) (h 18)
  | 19 =>
    have q := h 19
    simp only [mJ] at q ⊢
    simp only [e 11 (by decide), e 12 (by decide), e 13 (by decide)]
    exact q
  | 20 =>
    have q := h 20
    simp only [mJ] at q ⊢
    simp only [e 25 (by decide), e 26 (by decide), e 27 (by decide)]
    exact q
  | 21 =>
    have q := h 21
    simp only [mJ] at q ⊢
    simp only [e 16 (by decide)]
    exact q
  | 22 =>
    have q := h 22
    simp only [mJ] at q ⊢
    simp only [e 16 (by decide)]
    exact q
  | 23 =>
    have q := h 23
    simp only [mJ] at q ⊢
    simp only [e 18 (by decide)]
    exact q
  | 24 =>
    show ∀ s, s < ns → (m_readAll S np nr) 34 0 = nI s → ∀ k, k < 4 → ∀ p, (m_readAll S np nr) 18 (4 * s + k) = nI p → p < np → (m_readAll S np nr) 3 p = 1 ∧ (m_readAll S np nr) 10 p = -5
    rw [e 34 (by decide), e 18 (by decide), e 3 (by decide), show (m_readAll S np nr) 10 = m_rdL np 0 S 10 from m_prL_rw nr 0 (m_rdL np 0 S) 10 (by decide)]
    intro s hs a k hk p b hp
    obtain ⟨c1, c2⟩ := (h 24) s hs a k hk p b hp
    exact ⟨c1, by rw [m_rdL_keep np 0 c1]; exact c2⟩
  | 25 =>
    have q := h 25
    simp only [mJ] at q ⊢
    simp only [e 39 (by decide), e 34 (by decide)]
    exact q
  | 26 =>
    have q := h 26
    simp only [mJ] at q ⊢
    simp only [e 44 (by decide), e 42 (by decide)]
    exact q
  | 27 =>
    have q := h 27
    simp only [mJ] at q ⊢
    simp only [e 43 (by decide), e 45 (by decide)]
    exact q
  | 28 =>
    have q := h 28
    simp only [mJ] at q ⊢
    simp only [e 51 (by decide)]
    exact q
  | 29 =>
    exact j29_out (h 29) (mOut_tr (mOut_rdL np 0 S (by omega)) (mOut_rw (m_prL_rw nr 0 _) (l15 rfl)))
  | 30 =>
    have q := h 30
    simp only [mJ] at q ⊢
    simp only [e 44 (by decide), e 34 (by decide)]
    exact q
  | 31 =>
    have q := h 31
    simp only [mJ] at q ⊢
    simp only [e 3 (by decide)]
    exact q
  | 32 =>
    have q := h 32
    simp only [mJ] at q ⊢
    simp only [e 18 (by decide)]
    exact q
  | (n + 33) => exact trivial
theorem pEnd_cases {S : yS} {np ns : Nat} (hn : ns ≤ 6) (hg : cO (S 34 0) ns) : m_pEnd S np ns = S ∨ ∃ g, g < ns ∧ m_pEnd S np ns = mset (m_peL np g 4 0 S) 34 0 (-5) := by
  unfold m_pEnd
  rcases hg with e | ⟨g, hg, e⟩
  · exact Or.inl (if_pos (by rw [e]; decide))
  · rw [e, if_neg (nI_pos (by omega)), ix_nI (by omega)]
    repeat' split
    all_goals first | exact Or.inl rfl | exact Or.inr ⟨g, hg, rfl⟩
theorem mI_pEnd {S : yS} {np ns nd no nr t : Nat} (h : mI S np ns nd no nr t) : mI (m_pEnd S np ns) np ns nd no nr t := by
  have e : ∀ k, k ∉ ([3, 5, 6, 8, 9, 34, 46, 47, 48, 49] : List Nat) → (m_pEnd S np ns) k = S k := fun k hk => m_pEnd_rw S np ns k hk
  have n0 : np ≤ 8 := (h 0).2
  have n1 : ns ≤ 6 := (h 1).2
  have pc := pEnd_cases (np := np) n1 (h 12)
  intro i
  match i with
  | 0 =>
    have q := h 0
    simp only [mJ] at q ⊢
    simp only [e 1 (by decide)]
    exact q
  | 1 =>
    have q := h 1
    simp only [mJ] at q ⊢
    simp only [e 17 (by decide)]
    exact q
  | 2 =>
    have q := h 2
    simp only [mJ] at q ⊢
    simp only [e 19 (by decide)]
    exact q
  | 3 =>
    have q := h 3
    simp only [mJ] at q ⊢
    simp only [e 23 (by decide)]
    exact q
  | 4 =>
    have q := h 4
    simp only [mJ] at q ⊢
    simp only [e 29 (by decide)]
    exact q
  | 5 =>
    have q := h 5
    simp only [mJ] at q ⊢
    simp only [e 0 (by decide)]
    exact q
  | 6 =>
    have q := h 6
    simp only [mJ] at q ⊢
    simp only [e 2 (by decide)]
    exact q
  | 7 =>
    have q := h 7
    simp only [mJ] at q ⊢
    simp only [e 4 (by decide)]
    exact q
  | 8 =>
    have q := h 8
    simp only [mJ] at q ⊢
    simp only [e 20 (by decide)]
    exact q
  | 9 =>
    have q := h 9
    simp only [mJ] at q ⊢
    simp only [e 18 (by decide)]
    exact q
  | 10 =>
    have q := h 10
    simp only [mJ] at q ⊢
    simp only [e 24 (by decide)]
    exact q
  | 11 =>
    have q := h 11
    simp only [mJ] at q ⊢
    simp only [e 30 (by decide), e 31 (by decide)]
    exact q
  | 12 =>
    exact pEnd_34 (h 12)
  | 13 =>
    have q := h 13
    simp only [mJ] at q ⊢
    simp only [e 39 (by decide)]
    exact q
  | 14 =>
    have q := h 14
    simp only [mJ] at q ⊢
    simp only [e 38 (by decide)]
    exact q
  | 15 =>
    have q := h 15
    simp only [mJ] at q ⊢
    simp only [e 35 (by decide)]
    exact q
  | 16 =>
    have q := h 16
    simp only [mJ] at q ⊢
    simp only [e 14 (by decide), e 15 (by decide)]
    exact q
  | 17 =>
    have q := h 17
    simp only [mJ] at q ⊢
    simp only [e 40 (by decide)]
    exact q
  | 18 =>
    have q := h 18
    simp only [mJ] at q ⊢
    simp only [e 10 (by decide)]
    exact q
  | 19 =>
    have q := h 19
    simp only [mJ] at q ⊢
    simp only [e 11 (by decide), e 12 (by decide), e 13 (by decide)]
    exact q
  | 20 =>
    have q := h 20
    simp only [mJ] at q ⊢
    simp only [e 25 (by decide), e 26 (by decide), e 27 (by decide)]
    exact q
  | 21 =>
    have q := h 21
    simp only [mJ] at q ⊢
    simp only [e 16 (by decide)]
    exact q
  | 22 =>
    have q := h 22
    simp only [mJ] at q ⊢
    simp only [e 16 (by decide)]
    exact q
  | 23 =>
    have q := h 23
    simp only [mJ] at q ⊢
    simp only [e 18 (by decide)]
    exact q
  | 24 =>
    rcases pc with q | ⟨g, hg, q⟩
    · rw [q]
      exact h 24
    · show ∀ s, s < ns → (m_pEnd S np ns) 34 0 = nI s → _
      rw [q, mset_same]
      intro s hs a
      exact absurd a.symm (nI_m5 (by omega))
  | 25 =>
    rcases pc with q | ⟨g, hg, q⟩
    · rw [q]
      exact h 25
    · show ∀ s, s < ns → _ → (m_pEnd S np ns) 34 0 ≠ nI s
      rw [q, mset_same]
      intro s hs _ a
      exact absurd a.symm (nI_m5 (by omega))
  | 26 =>
    have q := h 26
    simp only [mJ] at q ⊢
    simp only [e 44 (by decide), e 42 (by decide)]
    exact q
  | 27 =>
    have q := h 27
    simp only [mJ] at q ⊢
    simp only [e 43 (by decide), e 45 (by decide)]
    exact q
  | 28 =>
    have q := h 28
    simp only [mJ] at q ⊢
    simp only [e 51 (by decide)]
    exact q
  | 29 =>
    refine j29_out (h 29) ?_
    rcases pc with q | ⟨g, hg, q⟩
    · rw [q]
      exact mOut_rf S
    · rw [q]
      exact mOut_tr (mOut_peL n0 hg 4 0 S (h 9) rfl) (mOut_set _ _ (Or.inr (by decide)))
  | 30 =>
    rcases pc with q | ⟨g, hg, q⟩
    · rw [q]
      exact h 30
    · show _ → (m_pEnd S np ns) 34 0 = -5
      rw [q, mset_same]
      exact fun _ => rfl
  | 31 =>
    rcases pc with q | ⟨g, hg, q⟩
    · rw [q]
      exact h 31
    · rw [q]
      exact mG_row (mG_peL (np := np) (h 31)) (mset_ne _ _ (by decide))
  | 32 =>
    have q := h 32
    simp only [mJ] at q ⊢
    simp only [e 18 (by decide)]
    exact q
  | (n + 33) => exact trivial
theorem am_3 {S : yS} {i p : Nat} (h : S 3 p = 1) : m_am S i 3 p = 1 := by
  unfold m_am
  by_cases c : S 3 i = 2
  · rw [if_pos c]
    split
    · exact h
    · rw [m_change_3]
      have ne : p ≠ i := fun z => by
        rw [← z, h] at c
        exact absurd c (by decide)
      simp only [upd, if_neg ne]
      exact h
  · rw [if_neg c]
    exact h
theorem amL_3 {p : Nat} : ∀ (j i : Nat) {S : yS}, S 3 p = 1 → m_amL j i S 3 p = 1
  | 0, _, _, h => h
  | j + 1, i, _, h => amL_3 j (i + 1) (am_3 h)
theorem mG_amL {np t : Nat} : ∀ (j i : Nat) {S : yS}, mG S np t → mG (m_amL j i S) np t
  | 0, _, _, h => h
  | j + 1, i, _, h => mG_amL j (i + 1) (mG_am h)
theorem mI_amL {S : yS} {np ns nd no nr t : Nat} (h : mI S np ns nd no nr t) : mI (m_amL np 0 S) np ns nd no nr t := by
  have e : ∀ k, k ∉ ([3, 5, 6, 46, 47, 48, 49] : List Nat) → (m_amL np 0 S) k = S k := fun k hk => m_amL_rw np 0 S k hk
  intro i
  match i with
  | 0 =>
    have q := h 0
    simp only [mJ] at q ⊢
    simp only [e 1 (by decide)]
    exact q
  | 1 =>
    have q := h 1
    simp only [mJ] at q ⊢
    simp only [e 17 (by decide)]
    exact q
  | 2 =>
    have q := h 2
    simp only [mJ] at q ⊢
    simp only [e 19 (by decide)]
    exact q
  | 3 =>
    have q := h 3
    simp only [mJ] at q ⊢
    simp only [e 23 (by decide)]
    exact q
  | 4 =>
    have q := h 4
    simp only [mJ] at q ⊢
    simp only [e 29 (by decide)]
    exact q
  | 5 =>
    have q := h 5
    simp only [mJ] at q ⊢
    simp only [e 0 (by decide)]
    exact q
  | 6 =>
    have q := h 6
    simp only [mJ] at q ⊢
    simp only [e 2 (by decide)]
    exact q
  | 7 =>
    have q := h 7
    simp only [mJ] at q ⊢
    simp only [e 4 (by decide)]
    exact q
  | 8 =>
    have q := h 8
    simp only [mJ] at q ⊢
    simp only [e 20 (by decide)]
    exact q
  | 9 =>
    have q := h 9
    simp only [mJ] at q ⊢
    simp only [e 18 (by decide)]
    exact q
  | 10 =>
    have q := h 10
    simp only [mJ] at q ⊢
    simp only [e 24 (by decide)]
    exact q
  | 11 =>
    have q := h 11
    simp only [mJ] at q ⊢
    simp only [e 30 (by decide), e 31 (by decide)]
    exact q
  | 12 =>
    have q := h 12
    simp only [mJ] at q ⊢
    simp only [e 34 (by decide)]
    exact q
  | 13 =>
    have q := h 13
    simp only [mJ] at q ⊢
    simp only [e 39 (by decide)]
    exact q
  | 14 =>
    have q := h 14
    simp only [mJ] at q ⊢
    simp only [e 38 (by decide)]
    exact q
  | 15 =>
    have q := h 15
    simp only [mJ] at q ⊢
    simp only [e 35 (by decide)]
    exact q
  | 16 =>
    have q := h 16
    simp only [mJ] at q ⊢
    simp only [e 14 (by decide), e 15 (by decide)]
    exact q
  | 17 =>
    have q := h 17
    simp only [mJ] at q ⊢
    simp only [e 40 (by decide)]
    exact q
  | 18 =>
    have q := h 18
    simp only [mJ] at q ⊢
    simp only [e 10 (by decide)]
    exact q
  | 19 =>
    have q := h 19
    simp only [mJ] at q ⊢
    simp only [e 11 (by decide), e 12 (by decide), e 13 (by decide)]
    exact q
  | 20 =>
    have q := h 20
    simp only [mJ] at q ⊢
    simp only [e 25 (by decide), e 26 (by decide), e 27 (by decide)]
    exact q
  | 21 =>
    have q := h 21
    simp only [mJ] at q ⊢
    simp only [e 16 (by decide)]
    exact q
  | 22 =>
    have q := h 22
    simp only [mJ] at q ⊢
    simp only [e 16 (by decide)]
    exact q
  | 23 =>
    have q := h 23
    simp only [mJ] at q ⊢
    simp only [e 18 (by decide)]
    exact q
  | 24 =>
    show ∀ s, s < ns → (m_amL np 0 S) 34 0 = nI s → ∀ k, k < 4 → ∀ p, (m_amL np 0 S) 18 (4 * s + k) = nI p → p < np → (m_amL np 0 S) 3 p = 1 ∧ (m_amL np 0 S) 10 p = -5
    rw [e 34 (by decide), e 18 (by decide), e 10 (by decide)]
    intro s hs a k hk p b hp
    obtain ⟨c1, c2⟩ := (h 24) s hs a k hk p b hp
    exact ⟨amL_3 np 0 c1, c2⟩
  | 25 =>
    have q := h 25
    simp only [mJ] at q ⊢
    simp only [e 39 (by decide), e 34 (by decide)]
    exact q
  | 26 =>
    have q := h 26
    simp only [mJ] at q ⊢
    simp only [e 44 (by decide), e 42 (by decide)]
    exact q
  | 27 =>
    have q := h 27
    simp only [mJ] at q ⊢
    simp only [e 43 (by decide), e 45 (by decide)]
    exact q
  | 28 =>
    have q := h 28
    simp only [mJ] at q ⊢
    simp only [e 51 (by decide)]
    exact q
  | 29 =>
    exact j29_out (h 29) (mOut_amL np 0 S (by omega))
  | 30 =>
    have q := h 30
    simp only [mJ] at q ⊢
    simp only [e 44 (by decide), e 34 (by decide)]
    exact q
  | 31 =>
    exact mG_amL np 0 (h 31)
  | 32 =>
    have q := h 32
    simp only [mJ] at q ⊢
    simp only [e 18 (by decide)]
    exact q
  | (n + 33) => exact trivial
theorem pBegin_cases {S : yS} {ns : Nat} (hn : ns ≤ 6) (hh : cO (S 39 0) ns) : m_pBegin S ns = S ∨ (S 34 0 < 0 ∧ ∃ g, g < ns ∧ m_pBegin S ns = m_begin S g) := by
  unfold m_pBegin
  by_cases c : 0 ≤ S 34 0
  · exact Or.inl (if_pos c)
  · rw [if_neg c]
    rcases m_next_cO (ns := ns) hh with e | ⟨g, hg, e⟩
    · exact Or.inl (by rw [e, if_neg (by decide)])
    · rw [e, if_pos (nI_pos' (by omega)), ix_nI (by omega)]
      split
      · exact Or.inr ⟨Int32.not_le.mp c, g, hg, rfl⟩
      · exact Or.inl rfl
theorem pbS_z {S : yS} {g i z : Nat} (hz : z < 8) (e : S 18 (4 * g + i) = nI z) : m_pbS g S i = mset (mset (m_change S z 1) 7 z (m_change S z 1 7 z + 1)) 10 z (-5) := by
  unfold m_pbS
  rw [e, if_neg (nI_pos (by omega)), ix_nI (by omega)]
theorem pbS_at {S : yS} {g i z : Nat} (hz : z < 8) (e : S 18 (4 * g + i) = nI z) (p : Nat) : m_pbS g S i 3 p = (if p = z then 1 else S 3 p) ∧ m_pbS g S i 10 p = if p = z then -5 else S 10 p := by
  rw [pbS_z hz e]
  refine ⟨?_, ?_⟩
  · rw [mset_ne _ _ (by decide), mset_ne _ _ (by decide), m_change_3]
    rfl
  · rw [mset_at, mset_ne _ _ (by decide), m_change_rw S z 1 10 (by decide)]
theorem pbS_n {S : yS} {g i : Nat} (e : S 18 (4 * g + i) = -5) : m_pbS g S i = S := by
  unfold m_pbS
  rw [if_pos (by rw [e]; decide)]
theorem pbL_at {np g ns : Nat} (hn : np ≤ 8) (hg : g < ns) : ∀ (j i : Nat) (S : yS), (∀ s, s < ns → ∀ k, k < 4 → cO (S 18 (4 * s + k)) np) → i + j = 4 → (∀ p, S 3 p = 1 → S 10 p = -5 → m_pbL g j i S 3 p = 1 ∧ m_pbL g j i S 10 p = -5) ∧ (∀ p, m_pbL g j i S 10 p = S 10 p ∨ m_pbL g j i S 10 p = -5) ∧ (∀ k, i ≤ k → k < 4 → ∀ p, S 18 (4 * g + k) = nI p → p < np → m_pbL g j i S 3 p = 1 ∧ m_pbL g j i S 10 p = -5)
  | 0, i, S, _, h => ⟨fun _ a b => ⟨a, b⟩, fun _ => Or.inl rfl, fun k h1 h2 => by omega⟩
  | j + 1, i, S, hB, h => by
    have r18 : m_pbS g S i 18 = S 18 := m_pbS_rw g S i 18 (by decide)
    obtain ⟨a1, a2, a3⟩ := pbL_at hn hg j (i + 1) (m_pbS g S i) (by rw [r18]; exact hB) (by omega)
    rcases hB g hg i (by omega) with e | ⟨z, hz, e⟩
    · rw [pbS_n e] at a1 a2 a3
      have ed : m_pbL g (j + 1) i S = m_pbL g j (i + 1) S := by
        show m_pbL g j (i + 1) (m_pbS g S i) = _
        rw [pbS_n e]
      rw [ed]
      refine ⟨a1, a2, fun k h1 h2 p q hp => ?_⟩
      by_cases d : k = i
      · rw [d, e] at q
        exact absurd q.symm (nI_m5 (by omega))
      · exact a3 k (by omega) h2 p q hp
    · have at_ := pbS_at (S := S) (g := g) (i := i) (show z < 8 by omega) e
      show (∀ p, S 3 p = 1 → S 10 p = -5 → m_pbL g j (i + 1) (m_pbS g S i) 3 p = 1 ∧ m_pbL g j (i + 1) (m_pbS g S i) 10 p = -5) ∧ (∀ p, m_pbL g j (i + 1) (m_pbS g S i) 10 p = S 10 p ∨ m_pbL g j (i + 1) (m_pbS g S i) 10 p = -5) ∧ _
      refine ⟨fun p h1 h2 => a1 p ?_ ?_, fun p => ?_, fun k h1 h2 p q hp => ?_⟩
      · rw [(at_ p).1]
        split
        · rfl
        · exact h1
      · rw [(at_ p).2]
        split
        · rfl
        · exact h2
      · rcases a2 p with q | q
        · rw [q, (at_ p).2]
          split
          · exact Or.inr rfl
          · exact Or.inl rfl
        · exact Or.inr q
      · show m_pbL g j (i + 1) (m_pbS g S i) 3 p = 1 ∧ m_pbL g j (i + 1) (m_pbS g S i) 10 p = -5
        by_cases d : k = i
        · rw [d, e] at q
          have : p = z := (nI_inj (by omega) (by omega) q).symm
          exact a1 p (by rw [(at_ p).1, if_pos this]) (by rw [(at_ p).2, if_pos this])
        · exact a3 k (by omega) h2 p (by rw [r18]; exact q) hp
/-- what a stage's begin sets -/
theorem begin_at {S : yS} {g : Nat} (hb : True) : m_begin S g 34 0 = nI g ∧ m_begin S g 38 0 = nI g ∧ m_begin S g 35 0 = S 0 0 ∧ m_begin S g 39 0 = if S 39 0 = nI g then -5 else S 39 0 := by
  unfold m_begin
  rw [m_pbL_rw g 4 0 _ 34 (by decide), m_pbL_rw g 4 0 _ 38 (by decide), m_pbL_rw g 4 0 _ 35 (by decide), m_pbL_rw g 4 0 _ 39 (by decide)]
  unfold m_pb4 m_pb3 m_pb2 m_pb1
  refine ⟨?_, ?_, ?_, ?_⟩ <;> simp [mset, va_up, upd]
theorem begin_S {S : yS} {g : Nat} : ∃ X, m_begin S g = m_pbL g 4 0 X ∧ ∀ k, k ∉ ([34, 35, 36, 37, 38, 39] : List Nat) → X k = S k := by
  refine ⟨_, rfl, fun k hk => ?_⟩
  simp at hk
  unfold m_pb4 m_pb3 m_pb2 m_pb1
  simp [mset_ne, hk]
theorem mP_pBegin {S : yS} {np ns nd no nr t : Nat} (h44 : S 44 0 = 0) (h : mI S np ns nd no nr t) : mP (m_pBegin S ns) np ns nd no nr t := by
  have e : ∀ k, k ∉ ([3, 5, 6, 7, 10, 34, 35, 36, 37, 38, 39, 46, 47, 48, 49] : List Nat) → (m_pBegin S ns) k = S k := fun k hk => m_pBegin_rw S ns k hk
  have n0 : np ≤ 8 := (h 0).2
  have n1 : ns ≤ 6 := (h 1).2
  have pc := pBegin_cases (ns := ns) n1 (h 13)
  intro i hi26 hi31
  match i, hi26, hi31 with
  | 0, hi26, hi31 =>
    have q := h 0
    simp only [mJ] at q ⊢
    simp only [e 1 (by decide)]
    exact q
  | 1, hi26, hi31 =>
    have q := h 1
    simp only [mJ] at q ⊢
    simp only [e 17 (by decide)]
    exact q
  | 2, hi26, hi31 =>
    have q := h 2
    simp only [mJ] at q ⊢
    simp only [e 19 (by decide)]
    exact q
  | 3, hi26, hi31 =>
    have q := h 3
    simp only [mJ] at q ⊢
    simp only [e 23 (by decide)]
    exact q
  | 4, hi26, hi31 =>
    have q := h 4
    simp only [mJ] at q ⊢
    simp only [e 29 (by decide)]
    exact q
  | 5, hi26, hi31 =>
    have q := h 5
    simp only [mJ] at q ⊢
    simp only [e 0 (by decide)]
    exact q
  | 6, hi26, hi31 =>
    have q := h 6
    simp only [mJ] at q ⊢
    simp only [e 2 (by decide)]
    exact q
  | 7, hi26, hi31 =>
    have q := h 7
    simp only [mJ] at q ⊢
    simp only [e 4 (by decide)]
    exact q
  | 8, hi26, hi31 =>
    have q := h 8
    simp only [mJ] at q ⊢
    simp only [e 20 (by decide)]
    exact q
  | 9, hi26, hi31 =>
    have q := h 9
    simp only [mJ] at q ⊢
    simp only [e 18 (by decide)]
    exact q
  | 10, hi26, hi31 =>
    have q := h 10
    simp only [mJ] at q ⊢
    simp only [e 24 (by decide)]
    exact q
  | 11, hi26, hi31 =>
    have q := h 11
    simp only [mJ] at q ⊢
    simp only [e 30 (by decide), e 31 (by decide)]
    exact q
  | 12, hi26, hi31 =>
    rcases pc with q | ⟨q34, g, hg, q⟩
    · rw [q]
      exact h 12
    · show cO ((m_pBegin S ns) 34 0) ns
      rw [q, (begin_at trivial).1]
      exact Or.inr ⟨g, hg, rfl⟩
  | 13, hi26, hi31 =>
    rcases pc with q | ⟨q34, g, hg, q⟩
    · rw [q]
      exact h 13
    · show cO ((m_pBegin S ns) 39 0) ns
      rw [q, (begin_at trivial).2.2.2]
      split
      · exact Or.inl rfl
      · exact h 13
  | 14, hi26, hi31 =>
    rcases pc with q | ⟨q34, g, hg, q⟩
    · rw [q]
      exact h 14
    · show (m_pBegin S ns) 38 0 = -1 ∨ ∃ s, s < ns ∧ (m_pBegin S ns) 38 0 = nI s
      rw [q, (begin_at trivial).2.1]
      exact Or.inr ⟨g, hg, rfl⟩
  | 15, hi26, hi31 =>
    rcases pc with q | ⟨q34, g, hg, q⟩
    · rw [q]
      exact h 15
    · show ∃ b, b ≤ t ∧ (m_pBegin S ns) 35 0 = nI b
      rw [q, (begin_at trivial).2.2.1]
      exact ⟨t, Nat.le_refl t, h 5⟩
  | 16, hi26, hi31 =>
    have q := h 16
    simp only [mJ] at q ⊢
    simp only [e 14 (by decide), e 15 (by decide)]
    exact q
  | 17, hi26, hi31 =>
    have q := h 17
    simp only [mJ] at q ⊢
    simp only [e 40 (by decide)]
    exact q
  | 18, hi26, hi31 =>
    rcases pc with q | ⟨q34, g, hg, q⟩
    · rw [q]
      exact h 18
    · show ∀ p, p < np → cO ((m_pBegin S ns) 10 p) (t + 1)
      obtain ⟨X, x1, x2⟩ := begin_S (S := S) (g := g)
      rw [q, x1]
      intro p hp
      rcases (pbL_at n0 hg 4 0 X (by rw [x2 18 (by decide)]; exact h 9) rfl).2.1 p with a | a
      · rw [a, x2 10 (by decide)]
        exact (h 18) p hp
      · exact Or.inl a
  | 19, hi26, hi31 =>
    have q := h 19
    simp only [mJ] at q ⊢
    simp only [e 11 (by decide), e 12 (by decide), e 13 (by decide)]
    exact q
  | 20, hi26, hi31 =>
    have q := h 20
    simp only [mJ] at q ⊢
    simp only [e 25 (by decide), e 26 (by decide), e 27 (by decide)]
    exact q
  | 21, hi26, hi31 =>
    have q := h 21
    simp only [mJ] at q ⊢
    simp only [e 16 (by decide)]
    exact q
  | 22, hi26, hi31 =>
    have q := h 22
    simp only [mJ] at q ⊢
    simp only [e 16 (by decide)]
    exact q
  | 23, hi26, hi31 =>
    have q := h 23
    simp only [mJ] at q ⊢
    simp only [e 18 (by decide)]
    exact q
  | 24, hi26, hi31 =>
    rcases pc with q | ⟨q34, g, hg, q⟩
    · rw [q]
      exact h 24
    · show ∀ s, s < ns → (m_pBegin S ns) 34 0 = nI s → ∀ k, k < 4 → ∀ p, (m_pBegin S ns) 18 (4 * s + k) = nI p → p < np → (m_pBegin S ns) 3 p = 1 ∧ (m_pBegin S ns) 10 p = -5
      rw [e 18 (by decide), q, (begin_at trivial).1]
      intro s hs a k hk p b hp
      have sg : s = g := (nI_inj (by omega) (by omega) a).symm
      subst sg
      obtain ⟨X, x1, x2⟩ := begin_S (S := S) (g := s)
      rw [x1]
      exact (pbL_at n0 hg 4 0 X (by rw [x2 18 (by decide)]; exact h 9) rfl).2.2 k (by omega) hk p (by rw [x2 18 (by decide)]; exact b) hp
  | 25, hi26, hi31 =>
    rcases pc with q | ⟨q34, g, hg, q⟩
    · rw [q]
      exact h 25
    · show ∀ s, s < ns → (m_pBegin S ns) 39 0 = nI s → (m_pBegin S ns) 34 0 ≠ nI s
      rw [q, (begin_at trivial).1, (begin_at trivial).2.2.2]
      intro s hs a b
      have sg : s = g := (nI_inj (by omega) (by omega) b).symm
      subst sg
      by_cases c : S 39 0 = nI s
      · rw [if_pos c] at a
        exact nI_m5 (by omega) a.symm
      · rw [if_neg c] at a
        exact c a
  | 26, hi26, hi31 => exact absurd rfl hi26
  | 27, hi26, hi31 =>
    have q := h 27
    simp only [mJ] at q ⊢
    simp only [e 43 (by decide), e 45 (by decide)]
    exact q
  | 28, hi26, hi31 =>
    have q := h 28
    simp only [mJ] at q ⊢
    simp only [e 51 (by decide)]
    exact q
  | 29, hi26, hi31 =>
    rcases pc with q | ⟨q34, g, hg, q⟩
    · rw [q]
      exact h 29
    · obtain ⟨X, x1, x2⟩ := begin_S (S := S) (g := g)
      rw [q, x1]
      exact j29_out (h 29) (mOut_tr (mOut_rw x2 (fun k hk z => by simp at z; omega)) (mOut_pbL n0 hg 4 0 X (by rw [x2 18 (by decide)]; exact h 9) rfl))
  | 30, hi26, hi31 =>
    show (m_pBegin S ns) 44 0 ≠ 0 → _
    rw [e 44 (by decide), h44]
    exact fun z => absurd rfl z
  | 31, hi26, hi31 => exact absurd rfl hi31
  | 32, hi26, hi31 =>
    have q := h 32
    simp only [mJ] at q ⊢
    simp only [e 18 (by decide)]
    exact q
  | (n + 33), _, _ => exact trivial
theorem meet_at {S : yS} {v : Int32} {np nr : Nat} : m_meet S v np nr 34 0 = -5 ∧ m_meet S v np nr 39 0 = -5 ∧ m_meet S v np nr 40 0 = 0 ∧ m_meet S v np nr 44 0 = 1 ∧ m_meet S v np nr 42 0 = S 0 0 ∧ m_meet S v np nr 43 0 = S 45 0 + 1 ∧ m_meet S v np nr 45 0 = S 45 0 + 1 := by
  unfold m_meet
  have c : ∀ k, k ≠ 33 → m_clrL nr 0 (m_mf2 (m_mfL np np 0 (m_mf1 S v))) k = m_mf2 (m_mfL np np 0 (m_mf1 S v)) k := fun k hk => m_clrL_rw nr 0 _ k (by simpa using hk)
  rw [c 34 (by decide), c 39 (by decide), c 40 (by decide), c 44 (by decide), c 42 (by decide), c 43 (by decide), c 45 (by decide)]
  have f : ∀ k, k ∉ ([34, 39, 40] : List Nat) → m_mf2 (m_mfL np np 0 (m_mf1 S v)) k = m_mfL np np 0 (m_mf1 S v) k := m_mf2_rw _
  rw [f 44 (by decide), f 42 (by decide), f 43 (by decide), f 45 (by decide)]
  have g : ∀ k, k ∉ lCE → m_mfL np np 0 (m_mf1 S v) k = m_mf1 S v k := m_mfL_rw np np 0 _
  rw [g 44 (by decide), g 42 (by decide), g 43 (by decide), g 45 (by decide)]
  unfold m_mf2 m_mf1
  refine ⟨?_, ?_, ?_, ?_, ?_, ?_, ?_⟩ <;> simp [mset, va_up, upd]
theorem mP_meet {S : yS} {np ns nd no nr t : Nat} (v : Int32) (h : mI S np ns nd no nr t) : mP (m_meet S v np nr) np ns nd no nr t := by
  have e : ∀ k, k ∉ ([3, 5, 6, 8, 9, 33, 34, 39, 40, 41, 42, 43, 44, 45, 46, 47, 48, 49] : List Nat) → (m_meet S v np nr) k = S k := fun k hk => m_meet_rw S v np nr k hk
  have n1 : ns ≤ 6 := (h 1).2
  intro i hi26 hi31
  match i, hi26, hi31 with
  | 0, hi26, hi31 =>
    have q := h 0
    simp only [mJ] at q ⊢
    simp only [e 1 (by decide)]
    exact q
  | 1, hi26, hi31 =>
    have q := h 1
    simp only [mJ] at q ⊢
    simp only [e 17 (by decide)]
    exact q
  | 2, hi26, hi31 =>
    have q := h 2
    simp only [mJ] at q ⊢
    simp only [e 19 (by decide)]
    exact q
  | 3, hi26, hi31 =>
    have q := h 3
    simp only [mJ] at q ⊢
    simp only [e 23 (by decide)]
    exact q
  | 4, hi26, hi31 =>
    have q := h 4
    simp only [mJ] at q ⊢
    simp only [e 29 (by decide)]
    exact q
  | 5, hi26, hi31 =>
    have q := h 5
    simp only [mJ] at q ⊢
    simp only [e 0 (by decide)]
    exact q
  | 6, hi26, hi31 =>
    have q := h 6
    simp only [mJ] at q ⊢
    simp only [e 2 (by decide)]
    exact q
  | 7, hi26, hi31 =>
    have q := h 7
    simp only [mJ] at q ⊢
    simp only [e 4 (by decide)]
    exact q
  | 8, hi26, hi31 =>
    have q := h 8
    simp only [mJ] at q ⊢
    simp only [e 20 (by decide)]
    exact q
  | 9, hi26, hi31 =>
    have q := h 9
    simp only [mJ] at q ⊢
    simp only [e 18 (by decide)]
    exact q
  | 10, hi26, hi31 =>
    have q := h 10
    simp only [mJ] at q ⊢
    simp only [e 24 (by decide)]
    exact q
  | 11, hi26, hi31 =>
    have q := h 11
    simp only [mJ] at q ⊢
    simp only [e 30 (by decide), e 31 (by decide)]
    exact q
  | 12, hi26, hi31 =>
    exact Or.inl meet_at.1
  | 13, hi26, hi31 =>
    exact Or.inl meet_at.2.1
  | 14, hi26, hi31 =>
    have q := h 14
    simp only [mJ] at q ⊢
    simp only [e 38 (by decide)]
    exact q
  | 15, hi26, hi31 =>
    have q := h 15
    simp only [mJ] at q ⊢
    simp only [e 35 (by decide)]
    exact q
  | 16, hi26, hi31 =>
    have q := h 16
    simp only [mJ] at q ⊢
    simp only [e 14 (by decide), e 15 (by decide)]
    exact q
  | 17, hi26, hi31 =>
    exact Or.inl meet_at.2.2.1
  | 18, hi26, hi31 =>
    have q := h 18
    simp only [mJ] at q ⊢
    simp only [e 10 (by decide)]
    exact q
  | 19, hi26, hi31 =>
    have q := h 19
    simp only [mJ] at q ⊢
    simp only [e 11 (by decide), e 12 (by decide), e 13 (by decide)]
    exact q
  | 20, hi26, hi31 =>
    have q := h 20
    simp only [mJ] at q ⊢
    simp only [e 25 (by decide), e 26 (by decide), e 27 (by decide)]
    exact q
  | 21, hi26, hi31 =>
    have q := h 21
    simp only [mJ] at q ⊢
    simp only [e 16 (by decide)]
    exact q
  | 22, hi26, hi31 =>
    have q := h 22
    simp only [mJ] at q ⊢
    simp only [e 16 (by decide)]
    exact q
  | 23, hi26, hi31 =>
    have q := h 23
    simp only [mJ] at q ⊢
    simp only [e 18 (by decide)]
    exact q
  | 24, hi26, hi31 =>
    intro s hs a
    rw [meet_at.1] at a
    exact absurd a.symm (nI_m5 (by omega))
  | 25, hi26, hi31 =>
    intro s hs a
    rw [meet_at.2.1] at a
    exact absurd a.symm (nI_m5 (by omega))
  | 26, hi26, hi31 => exact absurd rfl hi26
  | 27, hi26, hi31 =>
    show (m_meet S v np nr) 43 0 = (m_meet S v np nr) 45 0
    rw [meet_at.2.2.2.2.2.1, meet_at.2.2.2.2.2.2]
  | 28, hi26, hi31 =>
    have q := h 28
    simp only [mJ] at q ⊢
    simp only [e 51 (by decide)]
    exact q
  | 29, hi26, hi31 =>
    refine j29_out (h 29) ?_
    unfold m_meet
    refine mOut_tr (mOut_tr (mOut_tr (mOut_rw (m_mf1_rw S v) (l15 rfl)) (mOut_mfL np 0 _ (by omega))) (mOut_rw (m_mf2_rw _) (l15 rfl))) (mOut_rw (m_clrL_rw nr 0 _) (l15 rfl))
  | 30, hi26, hi31 =>
    exact fun _ => meet_at.1
  | 31, hi26, hi31 => exact absurd rfl hi31
  | 32, hi26, hi31 =>
    have q := h 32
    simp only [mJ] at q ⊢
    simp only [e 18 (by decide)]
    exact q
  | (n + 33), _, _ => exact trivial
theorem flash_rw (S : yS) (np : Nat) : mRw [3,5,6,44,46,47,48,49] S (m_flash S np) := by
  unfold m_flash
  split
  · exact mRw_tr (mRw_set S _ _ rfl) (mRw_mono (m_allL_rw 3 np 0 _) rfl)
  · exact mRw_rf S
theorem mP_flash {S : yS} {np ns nd no nr t : Nat} (h34 : S 34 0 = -5) (h : mI S np ns nd no nr t) : mP (m_flash S np) np ns nd no nr t := by
  have e : ∀ k, k ∉ ([3, 5, 6, 44, 46, 47, 48, 49] : List Nat) → (m_flash S np) k = S k := fun k hk => flash_rw S np k hk
  have n1 : ns ≤ 6 := (h 1).2
  intro i hi26 hi31
  match i, hi26, hi31 with
  | 0, hi26, hi31 =>
    have q := h 0
    simp only [mJ] at q ⊢
    simp only [e 1 (by decide)]
    exact q
  | 1, hi26, hi31 =>
    have q := h 1
    simp only [mJ] at q ⊢
    simp only [e 17 (by decide)]
    exact q
  | 2, hi26, hi31 =>
    have q := h 2
    simp only [mJ] at q ⊢
    simp only [e 19 (by decide)]
    exact q
  | 3, hi26, hi31 =>
    have q := h 3
    simp only [mJ] at q ⊢
    simp only [e 23 (by decide)]
    exact q
  | 4, hi26, hi31 =>
    have q := h 4
    simp only [mJ] at q ⊢
    simp only [e 29 (by decide)]
    exact q
  | 5, hi26, hi31 =>
    have q := h 5
    simp only [mJ] at q ⊢
    simp only [e 0 (by decide)]
    exact q
  | 6, hi26, hi31 =>
    have q := h 6
    simp only [mJ] at q ⊢
    simp only [e 2 (by decide)]
    exact q
  | 7, hi26, hi31 =>
    have q := h 7
    simp only [mJ] at q ⊢
    simp only [e 4 (by decide)]
    exact q
  | 8, hi26, hi31 =>
    have q := h 8
    simp only [mJ] at q ⊢
    simp only [e 20 (by decide)]
    exact q
  | 9, hi26, hi31 =>
    have q := h 9
    simp only [mJ] at q ⊢
    simp only [e 18 (by decide)]
    exact q
  | 10, hi26, hi31 =>
    have q := h 10
    simp only [mJ] at q ⊢
    simp only [e 24 (by decide)]
    exact q
  | 11, hi26, hi31 =>
    have q := h 11
    simp only [mJ] at q ⊢
    simp only [e 30 (by decide), e 31 (by decide)]
    exact q
  | 12, hi26, hi31 =>
    have q := h 12
    simp only [mJ] at q ⊢
    simp only [e 34 (by decide)]
    exact q
  | 13, hi26, hi31 =>
    have q := h 13
    simp only [mJ] at q ⊢
    simp only [e 39 (by decide)]
    exact q
  | 14, hi26, hi31 =>
    have q := h 14
    simp only [mJ] at q ⊢
    simp only [e 38 (by decide)]
    exact q
  | 15, hi26, hi31 =>
    have q := h 15
    simp only [mJ] at q ⊢
    simp only [e 35 (by decide)]
    exact q
  | 16, hi26, hi31 =>
    have q := h 16
    simp only [mJ] at q ⊢
    simp only [e 14 (by decide), e 15 (by decide)]
    exact q
  | 17, hi26, hi31 =>
    have q := h 17
    simp only [mJ] at q ⊢
    simp only [e 40 (by decide)]
    exact q
  | 18, hi26, hi31 =>
    have q := h 18
    simp only [mJ] at q ⊢
    simp only [e 10 (by decide)]
    exact q
  | 19, hi26, hi31 =>
    have q := h 19
    simp only [mJ] at q ⊢
    simp only [e 11 (by decide), e 12 (by decide), e 13 (by decide)]
    exact q
  | 20, hi26, hi31 =>
    have q := h 20
    simp only [mJ] at q ⊢
    simp only [e 25 (by decide), e 26 (by decide), e 27 (by decide)]
    exact q
  | 21, hi26, hi31 =>
    have q := h 21
    simp only [mJ] at q ⊢
    simp only [e 16 (by decide)]
    exact q
  | 22, hi26, hi31 =>
    have q := h 22
    simp only [mJ] at q ⊢
    simp only [e 16 (by decide)]
    exact q
  | 23, hi26, hi31 =>
    have q := h 23
    simp only [mJ] at q ⊢
    simp only [e 18 (by decide)]
    exact q
  | 24, hi26, hi31 =>
    show ∀ s, s < ns → (m_flash S np) 34 0 = nI s → _
    rw [e 34 (by decide), h34]
    intro s hs a
    exact absurd a.symm (nI_m5 (by omega))
  | 25, hi26, hi31 =>
    have q := h 25
    simp only [mJ] at q ⊢
    simp only [e 39 (by decide), e 34 (by decide)]
    exact q
  | 26, hi26, hi31 => exact absurd rfl hi26
  | 27, hi26, hi31 =>
    have q := h 27
    simp only [mJ] at q ⊢
    simp only [e 43 (by decide), e 45 (by decide)]
    exact q
  | 28, hi26, hi31 =>
    have q := h 28
    simp only [mJ] at q ⊢
    simp only [e 51 (by decide)]
    exact q
  | 29, hi26, hi31 =>
    refine j29_out (h 29) ?_
    unfold m_flash
    split
    · exact mOut_tr (mOut_set S _ (Or.inr (by decide))) (mOut_allL 3 np 0 _ (by omega))
    · exact mOut_rf S
  | 30, hi26, hi31 =>
    intro _
    rw [e 34 (by decide)]
    exact h34
  | 31, hi26, hi31 => exact absurd rfl hi31
  | 32, hi26, hi31 =>
    have q := h 32
    simp only [mJ] at q ⊢
    simp only [e 18 (by decide)]
    exact q
  | (n + 33), _, _ => exact trivial
theorem mI_keep {S : yS} {np ns nd no nr t : Nat} (h26 : S 44 0 = 0 ∨ (S 44 0 = 1 ∧ ∃ u, S 42 0 = nI u ∧ u < t + 1 ∧ t + 1 ≤ u + 3) ∨ (S 44 0 = 2 ∧ ∃ u, S 42 0 = nI u ∧ u + 3 < t + 1)) (h : mP S np ns nd no nr t) : mI (m_keep S np t) np ns nd no nr (t + 1) := by
  have e : ∀ k, k ∉ ([0, 51] : List Nat) → (m_keep S np t) k = S k := fun k hk => by
    simp at hk
    unfold m_keep
    rw [mset_ne _ _ hk.1, m_kpL_rw t np 0 S k (by simpa using hk.2)]
  intro i
  match i with
  | 0 =>
    have q := h 0 (by decide) (by decide)
    simp only [mJ] at q ⊢
    simp only [e 1 (by decide)]
    exact q
  | 1 =>
    have q := h 1 (by decide) (by decide)
    simp only [mJ] at q ⊢
    simp only [e 17 (by decide)]
    exact q
  | 2 =>
    have q := h 2 (by decide) (by decide)
    simp only [mJ] at q ⊢
    simp only [e 19 (by decide)]
    exact q
  | 3 =>
    have q := h 3 (by decide) (by decide)
    simp only [mJ] at q ⊢
    simp only [e 23 (by decide)]
    exact q
  | 4 =>
    have q := h 4 (by decide) (by decide)
    simp only [mJ] at q ⊢
    simp only [e 29 (by decide)]
    exact q
  | 5 =>
    show m_keep S np t 0 0 = nI (t + 1)
    unfold m_keep
    rw [mset_same, m_kpL_rw t np 0 S 0 (by decide), show S 0 0 = nI t from h 5 (by decide) (by decide), nI_1]
  | 6 =>
    have q := h 6 (by decide) (by decide)
    simp only [mJ] at q ⊢
    simp only [e 2 (by decide)]
    exact q
  | 7 =>
    have q := h 7 (by decide) (by decide)
    simp only [mJ] at q ⊢
    simp only [e 4 (by decide)]
    exact q
  | 8 =>
    have q := h 8 (by decide) (by decide)
    simp only [mJ] at q ⊢
    simp only [e 20 (by decide)]
    exact q
  | 9 =>
    have q := h 9 (by decide) (by decide)
    simp only [mJ] at q ⊢
    simp only [e 18 (by decide)]
    exact q
  | 10 =>
    have q := h 10 (by decide) (by decide)
    simp only [mJ] at q ⊢
    simp only [e 24 (by decide)]
    exact q
  | 11 =>
    have q := h 11 (by decide) (by decide)
    simp only [mJ] at q ⊢
    simp only [e 30 (by decide), e 31 (by decide)]
    exact q
  | 12 =>
    have q := h 12 (by decide) (by decide)
    simp only [mJ] at q ⊢
    simp only [e 34 (by decide)]
    exact q
  | 13 =>
    have q := h 13 (by decide) (by decide)
    simp only [mJ] at q ⊢
    simp only [e 39 (by decide)]
    exact q
  | 14 =>
    have q := h 14 (by decide) (by decide)
    simp only [mJ] at q ⊢
    simp only [e 38 (by decide)]
    exact q
  | 15 =>
    show ∃ b, b ≤ t + 1 ∧ (m_keep S np t) 35 0 = nI b
    rw [e 35 (by decide)]
    obtain ⟨b, hb, q⟩ := h 15 (by decide) (by decide)
    exact ⟨b, by omega, q⟩
  | 16 =>
    have q := h 16 (by decide) (by decide)
    simp only [mJ] at q ⊢
    simp only [e 14 (by decide), e 15 (by decide)]
    exact q
  | 17 =>
    have q := h 17 (by decide) (by decide)
    simp only [mJ] at q ⊢
    simp only [e 40 (by decide)]
    exact q
  | 18 =>
    show ∀ p, p < np → cO ((m_keep S np t) 10 p) (t + 1 + 1)
    rw [e 10 (by decide)]
    exact fun p hp => cO_mono (h 18 (by decide) (by decide) p hp) (by omega)
  | 19 =>
    have q := h 19 (by decide) (by decide)
    simp only [mJ] at q ⊢
    simp only [e 11 (by decide), e 12 (by decide), e 13 (by decide)]
    exact q
  | 20 =>
    have q := h 20 (by decide) (by decide)
    simp only [mJ] at q ⊢
    simp only [e 25 (by decide), e 26 (by decide), e 27 (by decide)]
    exact q
  | 21 =>
    have q := h 21 (by decide) (by decide)
    simp only [mJ] at q ⊢
    simp only [e 16 (by decide)]
    exact q
  | 22 =>
    have q := h 22 (by decide) (by decide)
    simp only [mJ] at q ⊢
    simp only [e 16 (by decide)]
    exact q
  | 23 =>
    have q := h 23 (by decide) (by decide)
    simp only [mJ] at q ⊢
    simp only [e 18 (by decide)]
    exact q
  | 24 =>
    have q := h 24 (by decide) (by decide)
    simp only [mJ] at q ⊢
    simp only [e 34 (by decide), e 18 (by decide), e 3 (by decide), e 10 (by decide)]
    exact q
  | 25 =>
    have q := h 25 (by decide) (by decide)
    simp only [mJ] at q ⊢
    simp only [e 39 (by decide), e 34 (by decide)]
    exact q
  | 26 =>
    show (m_keep S np t) 44 0 = 0 ∨ ((m_keep S np t) 44 0 = 1 ∧ ∃ u, (m_keep S np t) 42 0 = nI u ∧ u < t + 1 ∧ t + 1 ≤ u + 3) ∨ ((m_keep S np t) 44 0 = 2 ∧ ∃ u, (m_keep S np t) 42 0 = nI u ∧ u + 3 < t + 1)
    rw [e 44 (by decide), e 42 (by decide)]
    exact h26
  | 27 =>
    have q := h 27 (by decide) (by decide)
    simp only [mJ] at q ⊢
    simp only [e 43 (by decide), e 45 (by decide)]
    exact q
  | 28 =>
    exact fun z => absurd z (by omega)
  | 29 =>
    have q := h 29 (by decide) (by decide)
    simp only [mJ] at q ⊢
    simp only [e 3 (by decide), e 4 (by decide), e 5 (by decide), e 6 (by decide), e 7 (by decide), e 8 (by decide), e 9 (by decide), e 10 (by decide), e 11 (by decide), e 12 (by decide), e 13 (by decide), e 14 (by decide), e 15 (by decide)]
    exact q
  | 30 =>
    have q := h 30 (by decide) (by decide)
    simp only [mJ] at q ⊢
    simp only [e 44 (by decide), e 34 (by decide)]
    exact q
  | 31 =>
    exact fun p _ _ => Nat.succ_pos t
  | 32 =>
    have q := h 32 (by decide) (by decide)
    simp only [mJ] at q ⊢
    simp only [e 18 (by decide)]
    exact q
  | (n + 33) => exact trivial
theorem mI_run {S : yS} {np ns nd no nr t : Nat} (h44 : S 44 0 = 0) (h : mI S np ns nd no nr t) : mP (m_run S np ns) np ns nd no nr t := by
  unfold m_run
  refine mP_pBegin ?_ (mI_amL (mI_pEnd h))
  rw [m_amL_rw np 0 _ 44 (by decide), m_pEnd_rw S np ns 44 (by decide)]
  exact h44
theorem run_44 {S : yS} {np ns : Nat} : m_run S np ns 44 = S 44 := by
  unfold m_run
  rw [m_pBegin_rw _ ns 44 (by decide), m_amL_rw np 0 _ 44 (by decide), m_pEnd_rw S np ns 44 (by decide)]
theorem mI_pass {S : yS} {np ns nd no nr t : Nat} (h : mI S np ns nd no nr t) (ht : t < 2 ^ 20) : ∃ no2, mI (m_pass S np ns no nr t).2 np ns nd no2 nr (t + 1) := by
  obtain ⟨n2, hn2, hO⟩ := mI_doOrders h
  refine ⟨n2, ?_⟩
  unfold m_pass
  have c26 := hO 26
  have k3 : m_doOrders S no 0 0 = nI t := hO 5
  by_cases c : m_doOrders S no 44 0 ≤ 0
  · rw [if_pos c]
    have h44 : m_doOrders S no 44 0 = 0 := by
      rcases c26 with z | ⟨z, _⟩ | ⟨z, _⟩
      · exact z
      · rw [z] at c; exact absurd c (by decide)
      · rw [z] at c; exact absurd c (by decide)
    have hA := mI_readAll (np := np) (nr := nr) hO
    have a44 : m_readAll (m_doOrders S no) np nr 44 0 = 0 := by rw [m_readAll_rw _ np nr 44 (by decide)]; exact h44
    split
    · exact mI_keep (Or.inl (by rw [run_44]; exact a44)) (mI_run a44 hA)
    · refine mI_keep (Or.inr (Or.inl ⟨meet_at.2.2.2.1, t, ?_, by omega, by omega⟩)) (mP_meet _ hA)
      rw [meet_at.2.2.2.2.1, m_readAll_rw _ np nr 0 (by decide)]
      exact k3
  · rw [if_neg c]
    have h44 : m_doOrders S no 44 0 ≠ 0 := fun z => c (by rw [z]; decide)
    refine mI_keep ?_ (mP_flash (hO 30 h44) hO)
    have r42 : m_flash (m_doOrders S no) np 42 = m_doOrders S no 42 := flash_rw _ np 42 (by decide)
    rw [r42]
    rcases c26 with z | ⟨z, u, e, h1, h2⟩ | ⟨z, u, e, h1⟩
    · exact absurd z h44
    · unfold m_flash
      have eq : (m_doOrders S no 0 0 = m_doOrders S no 42 0 + 3) ↔ t = u + 3 := by
        rw [k3, e, show (3 : Int32) = nI 3 from rfl, nI_add, nI_eq (by omega) (by omega)]
      by_cases d : t = u + 3
      · rw [if_pos (eq.mpr d), m_allL_rw 3 np 0 _ 44 (by decide), mset_same]
        exact Or.inr (Or.inr ⟨rfl, u, e, by omega⟩)
      · rw [if_neg (fun q => d (eq.mp q)), z]
        exact Or.inr (Or.inl ⟨rfl, u, e, by omega, by omega⟩)
    · unfold m_flash
      rw [if_neg (fun q => by
        rw [k3, e, show (3 : Int32) = nI 3 from rfl, nI_add, nI_eq (by omega) (by omega)] at q
        omega), z]
      exact Or.inr (Or.inr ⟨rfl, u, e, by omega⟩)
theorem mI_0 : mI mS0 0 0 0 0 0 0 := by
  intro i
  match i with
  | 0 => exact ⟨rfl, by decide⟩
  | 1 => exact ⟨rfl, by decide⟩
  | 2 => exact ⟨rfl, by decide⟩
  | 3 => exact ⟨rfl, by decide⟩
  | 4 => exact ⟨rfl, by decide⟩
  | 5 => exact rfl
  | 6 => exact fun p hp => absurd hp (by omega)
  | 7 => exact fun p hp => absurd hp (by omega)
  | 8 => exact fun p hp => absurd hp (by omega)
  | 9 => exact fun p hp => absurd hp (by omega)
  | 10 => exact fun p hp => absurd hp (by omega)
  | 11 => exact fun p hp => absurd hp (by omega)
  | 12 => exact Or.inl rfl
  | 13 => exact Or.inl rfl
  | 14 => exact Or.inl rfl
  | 15 => exact ⟨0, by omega, rfl⟩
  | 16 => exact fun p hp => absurd hp (by omega)
  | 17 => exact Or.inl rfl
  | 18 => exact fun p hp => absurd hp (by omega)
  | 19 => exact fun p hp => absurd hp (by omega)
  | 20 => exact fun p hp => absurd hp (by omega)
  | 21 => exact fun p _ q _ => ⟨0, by omega, rfl, fun _ => rfl, fun _ => rfl, fun _ => rfl⟩
  | 22 => exact fun p _ q _ => Iff.rfl
  | 23 => exact fun p hp => absurd hp (by omega)
  | 24 => exact fun p hp => absurd hp (by omega)
  | 25 => exact fun p hp => absurd hp (by omega)
  | 26 => exact Or.inl rfl
  | 27 => exact rfl
  | 28 => exact fun _ _ => rfl
  | 29 =>
    show ∀ p, 0 ≤ p → p < 8 → _
    intro p _ h
    rcases (by omega : p = 0 ∨ p = 1 ∨ p = 2 ∨ p = 3 ∨ p = 4 ∨ p = 5 ∨ p = 6 ∨ p = 7) with rfl | rfl | rfl | rfl | rfl | rfl | rfl | rfl <;> exact ⟨rfl, rfl, rfl, rfl, rfl, rfl, rfl, rfl, rfl, rfl, rfl, rfl, rfl⟩
  | 30 => exact fun z => absurd rfl z
  | 31 => exact fun p hp => absurd hp (by omega)
  | 32 => exact fun p hp => absurd hp (by omega)
  | (n + 33) => exact trivial
