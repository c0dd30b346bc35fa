theorem nw_79 : yNw RX8 79 7 18 [.int 0, .int 0, .null, .null, .null, .int 0, .int 0, .int 0, .int 0, .int 0, .int 0, .int 0, .int 0, .int 0, .int 0, .int 0, .int 0, .int 0] := ⟨RX6, TX6, tyX6, rfl, it_X6, tyX6_ok, yt_in 168 (by decide +kernel) rfl, yt_in 169 (by decide +kernel) rfl, yt_in 9 (by decide +kernel) rfl, fun j hj => match j, hj with | 0, _ => rfl | 1, _ => rfl | 2, _ => rfl | 3, _ => rfl | 4, _ => rfl | 5, _ => rfl | 6, _ => rfl | 7, _ => rfl | 8, _ => rfl | 9, _ => rfl | 10, _ => rfl | 11, _ => rfl | 12, _ => rfl | 13, _ => rfl | 14, _ => rfl | 15, _ => rfl | 16, _ => rfl | 17, _ => rfl | (q + 18), z => absurd z (by omega)⟩
theorem nw_103 : yNw RX8 103 8 2 [.int 0, .null] := ⟨RX7, TX7, tyX7, rfl, it_X7, tyX7_ok, yt_in 337 (by decide +kernel) rfl, yt_in 350 (by decide +kernel) rfl, yt_in 16 (by decide +kernel) rfl, fun j hj => match j, hj with | 0, _ => rfl | 1, _ => rfl | (q + 2), z => absurd z (by omega)⟩
theorem nw_128 : yNw RX8 128 2 4 [.int 0, .null, .null, .int 0] := ⟨RX1, TX1, tyX1, rfl, it_X1, tyX1_ok, yt_in 386 (by decide +kernel) rfl, yt_in 387 (by decide +kernel) rfl, yt_in 17 (by decide +kernel) rfl, fun j hj => match j, hj with | 0, _ => rfl | 1, _ => rfl | 2, _ => rfl | 3, _ => rfl | (q + 4), z => absurd z (by omega)⟩
theorem nw_152 : yNw RX8 152 5 5 [.null, .int 0, .int 0, .int 0, .int 0] := ⟨RX4, TX4, tyX4, rfl, it_X4, tyX4_ok, yt_in 438 (by decide +kernel) rfl, yt_in 439 (by decide +kernel) rfl, yt_in 18 (by decide +kernel) rfl, fun j hj => match j, hj with | 0, _ => rfl | 1, _ => rfl | 2, _ => rfl | 3, _ => rfl | 4, _ => rfl | (q + 5), z => absurd z (by omega)⟩
theorem nw_161 : yNw RX8 161 6 4 [.null, .null, .int 0, .int 0] := ⟨RX5, TX5, tyX5, rfl, it_X5, tyX5_ok, yt_in 469 (by decide +kernel) rfl, yt_in 470 (by decide +kernel) rfl, yt_in 19 (by decide +kernel) rfl, fun j hj => match j, hj with | 0, _ => rfl | 1, _ => rfl | 2, _ => rfl | 3, _ => rfl | (q + 4), z => absurd z (by omega)⟩
theorem nw_7 : yNw RX8 7 0 3 [.int 0, .null, .int 0] := ⟨RJx4a65c, TJx4a65c, tyJx4a65c, rfl, it_Jx4a65c, tyJx4a65c_ok, yt_in 28 (by decide +kernel) rfl, yt_in 29 (by decide +kernel) rfl, yt_in 4 (by decide +kernel) rfl, fun j hj => match j, hj with | 0, _ => rfl | 1, _ => rfl | 2, _ => rfl | (q + 3), z => absurd z (by omega)⟩
theorem nw_28 : yNw RX8 28 4 3 [.null, .int 0, .int 0] := ⟨RX3, TX3, tyX3, rfl, it_X3, tyX3_ok, yt_in 54 (by decide +kernel) rfl, yt_in 55 (by decide +kernel) rfl, yt_in 5 (by decide +kernel) rfl, fun j hj => match j, hj with | 0, _ => rfl | 1, _ => rfl | 2, _ => rfl | (q + 3), z => absurd z (by omega)⟩
theorem nw_35 : yNw RX8 35 3 5 [.int 0, .int 0, .int 0, .int 0, .int 0] := ⟨RX2, TX2, tyX2, rfl, it_X2, tyX2_ok, yt_in 73 (by decide +kernel) rfl, yt_in 74 (by decide +kernel) rfl, yt_in 6 (by decide +kernel) rfl, fun j hj => match j, hj with | 0, _ => rfl | 1, _ => rfl | 2, _ => rfl | 3, _ => rfl | 4, _ => rfl | (q + 5), z => absurd z (by omega)⟩
theorem nw_42 : yNw RX8 42 1 1 [.int 0] := ⟨RX0, TX0, tyX0, rfl, it_X0, tyX0_ok, yt_in 100 (by decide +kernel) rfl, yt_in 101 (by decide +kernel) rfl, yt_in 7 (by decide +kernel) rfl, fun j hj => match j, hj with | 0, _ => rfl | (q + 1), z => absurd z (by omega)⟩
/-! a list grows -/
def xnew : Nat → Nat → Bool
  | 0, k => k == 3 || k == 4 || k == 5
  | 1, k => k == 6 || k == 7
  | 2, k => k == 8 || k == 9 || k == 10
  | 3, k => k == 11
  | _, k => k == 12
def pushB (B : Nat → Nat → Nat) (li n ea : Nat) (Y : Nat → Nat) : Nat → Nat → Nat := fun k i => if k = 2 ∧ i = li then ea else if xnew li k = true ∧ i = n then Y k else B k i
theorem xV_new {S : yS} {cap N : Nat → Nat} {k i : Nat} : ∀ li, li < 5 → xnew li k = true → xV S cap N k i → i < N li := by
  refine i5 ?_ ?_ ?_ ?_ ?_
  · intro hk v
    simp only [xnew, Bool.or_eq_true, beq_iff_eq] at hk
    rcases hk with (rfl | rfl) | rfl <;> exact v
  · intro hk v
    simp only [xnew, Bool.or_eq_true, beq_iff_eq] at hk
    rcases hk with rfl | rfl <;> exact v
  · intro hk v
    simp only [xnew, Bool.or_eq_true, beq_iff_eq] at hk
    rcases hk with (rfl | rfl) | rfl
    · exact v
    · exact v.1
    · exact v.1
  · intro hk v
    simp only [xnew, beq_iff_eq] at hk
    subst hk
    exact v
  · intro hk v
    simp only [xnew, beq_iff_eq] at hk
    subst hk
    exact v
theorem up_lt {N : Nat → Nat} {li x i : Nat} (h : i < va_up N li (N li + 1) x) (ne : ¬ (li = x ∧ i = N li)) : i < N x := by
  by_cases z : x = li
  · subst z
    rw [va_up_self'] at h
    have : i ≠ N x := fun q => ne ⟨rfl, q⟩
    omega
  · rw [va_up_ne' _ _ z] at h
    exact h
theorem push_V {S : yS} {cap N : Nat → Nat} {c2 k i : Nat} {li : Nat} (v : xV S (va_up cap li c2) (va_up N li (N li + 1)) k i) (z1 : ¬ (k = 2 ∧ i = li)) (z2 : ¬ (xnew li k = true ∧ i = N li)) : xV S cap N k i := by
  have hk := xV_lt v
  revert v z1 z2
  refine c17 (P := fun k => xV S (va_up cap li c2) (va_up N li (N li + 1)) k i → ¬ (k = 2 ∧ i = li) → ¬ (xnew li k = true ∧ i = N li) → xV S cap N k i) ?_ ?_ ?_ ?_ ?_ ?_ ?_ ?_ ?_ ?_ ?_ ?_ ?_ ?_ ?_ ?_ ?_ k hk
  all_goals simp only [xV]
  · exact fun q _ _ => q
  · exact fun q _ _ => q
  · intro q z _
    rw [va_up_ne' _ _ (fun y => z ⟨trivial, y⟩)] at q
    exact q
  · exact fun q _ z => up_lt q (fun y => z ⟨by rw [y.1]; rfl, y.2⟩)
  · exact fun q _ z => up_lt q (fun y => z ⟨by rw [y.1]; rfl, y.2⟩)
  · exact fun q _ z => up_lt q (fun y => z ⟨by rw [y.1]; rfl, y.2⟩)
  · exact fun q _ z => up_lt q (fun y => z ⟨by rw [y.1]; rfl, y.2⟩)
  · exact fun q _ z => up_lt q (fun y => z ⟨by rw [y.1]; rfl, y.2⟩)
  · exact fun q _ z => up_lt q (fun y => z ⟨by rw [y.1]; rfl, y.2⟩)
  · exact fun q _ z => ⟨up_lt q.1 (fun y => z ⟨by rw [y.1]; rfl, y.2⟩), q.2⟩
  · exact fun q _ z => ⟨up_lt q.1 (fun y => z ⟨by rw [y.1]; rfl, y.2⟩), q.2⟩
  · exact fun q _ z => up_lt q (fun y => z ⟨by rw [y.1]; rfl, y.2⟩)
  · exact fun q _ z => up_lt q (fun y => z ⟨by rw [y.1]; rfl, y.2⟩)
  · exact fun q _ _ => q
  · exact fun q _ _ => q
  · exact fun q _ _ => q
  · exact fun q _ _ => q
/-- what the cells speak of is there -/
def RF (S : yS) (N : Nat → Nat) : Prop := (cO (S 34 0) (N 1) ∧ cO (S 39 0) (N 1)) ∧ (∀ p, p < N 0 → cO (S 4 p) (N 2)) ∧ (∀ s, s < N 1 → ∀ k, k < 4 → cO (S 18 (4 * s + k)) (N 0)) ∧ (∀ k, k < N 3 → ∃ p, p < N 0 ∧ S 24 k = nI p) ∧ (∀ k, k < N 4 → (∃ d, d < N 2 ∧ S 30 k = nI d) ∧ ∃ d, d < N 2 ∧ S 31 k = nI d) ∧ ∀ i, i < 5 → N i ≤ 16
theorem xr_eq {f g : Nat → Nat} {x : Int32} {n : Nat} (hn : n ≤ 16) (hx : cO x n) (e : ∀ i, i < n → f i = g i) : xr f x = xr g x := by
  unfold xr
  rcases hx with q | ⟨j, hj, q⟩
  · rw [q, if_pos (by decide), if_pos (by decide)]
  · rw [q, if_neg (nI_pos (by omega)), if_neg (nI_pos (by omega)), ix_nI (by omega), e j hj]
theorem xkd_V {S : yS} {cap N : Nat → Nat} {j : Nat} : ∀ i, i < 5 → j < N i → xV S cap N (xkd i) j := i5 (fun q => q) (fun q => q) (fun q => q) (fun q => q) (fun q => q)
theorem xkd_2 : ∀ i, i < 5 → xkd i ≠ 2 := i5 (by decide) (by decide) (by decide) (by decide) (by decide)
theorem xkd_new : ∀ i, i < 5 → xnew i (xkd i) = true := i5 rfl rfl rfl rfl rfl
theorem push_C {dA : Nat → ClassId} {t0 : Nat} {S : yS} {lf mc : Nat → Int32} {cap : Nat → Nat} {B : Nat → Nat → Nat} {N : Nat → Nat} {h : yH} {B' : Nat → Nat → Nat} {li c2 : Nat} (hF : RF S N) (hB : ∀ k i, xV S cap N k i → ¬ (k = 2 ∧ i = li) → B' k i = B k i) (hB2 : ∀ i, i < 5 → ¬ 0 < cap i → i ≠ li → B' 2 i = B 2 i) {k i : Nat} (v : xV S cap N k i) (z1 : ¬ (k = 1 ∧ i = li)) (z2 : ¬ (k = 2 ∧ i = li)) : xC dA S lf (va_up mc li (mc li + 1)) (va_up cap li c2) B' (va_up N li (N li + 1)) k i = xC dA S lf mc cap B N k i := by
  obtain ⟨⟨f34, f39⟩, f4, f18, f24, f30, fN⟩ := hF
  have b1 : ∀ i, i < 5 → B' 1 i = B 1 i := fun i hi => hB 1 i hi (fun q => by omega)
  have b3 : ∀ i, i < N 0 → B' 3 i = B 3 i := fun i hi => hB 3 i hi (fun q => by omega)
  have b4 : ∀ i, i < N 0 → B' 4 i = B 4 i := fun i hi => hB 4 i hi (fun q => by omega)
  have b5 : ∀ i, i < N 0 → B' 5 i = B 5 i := fun i hi => hB 5 i hi (fun q => by omega)
  have b6 : ∀ i, i < N 1 → B' 6 i = B 6 i := fun i hi => hB 6 i hi (fun q => by omega)
  have b7 : ∀ i, i < N 1 → B' 7 i = B 7 i := fun i hi => hB 7 i hi (fun q => by omega)
  have b8 : ∀ i, i < N 2 → B' 8 i = B 8 i := fun i hi => hB 8 i hi (fun q => by omega)
  have n0 := fN 0 (by decide)
  have n1 := fN 1 (by decide)
  have n2 := fN 2 (by decide)
  have hk := xV_lt v
  revert v z1 z2
  refine c17 (P := fun k => xV S cap N k i → ¬ (k = 1 ∧ i = li) → ¬ (k = 2 ∧ i = li) → xC dA S lf (va_up mc li (mc li + 1)) (va_up cap li c2) B' (va_up N li (N li + 1)) k i = xC dA S lf mc cap B N k i) ?_ ?_ ?_ ?_ ?_ ?_ ?_ ?_ ?_ ?_ ?_ ?_ ?_ ?_ ?_ ?_ ?_ k hk
  · intro _ _ _
    simp only [xC, xK, b1 0 (by decide), b1 1 (by decide), b1 2 (by decide), b1 3 (by decide), b1 4 (by decide), hB 13 0 rfl (fun q => by omega), hB 15 0 rfl (fun q => by omega), hB 16 0 rfl (fun q => by omega), xr_eq n1 f34 b6, xr_eq n1 f39 b6]
  · intro v z _
    have ne : i ≠ li := fun q => z ⟨rfl, q⟩
    by_cases c : 0 < cap i
    · simp only [xC, va_up_ne' _ _ ne, hB 2 i ⟨v, c⟩ (fun q => ne q.2)]
    · simp only [xC, va_up_ne' _ _ ne, hB2 i v c ne]
  · intro v _ z
    have ne : i ≠ li := fun q => z ⟨rfl, q⟩
    simp only [xC, va_up_ne' _ _ ne]
    congr 5
    funext j
    by_cases c : j < N i
    · rw [if_pos c, if_pos c, hB (xkd i) j (xkd_V i v.1 c) (fun q => xkd_2 i v.1 q.1)]
    · rw [if_neg c, if_neg c]
  · intro v _ _
    simp only [xC, xP, b4 i v, b5 i v, xr_eq n2 (f4 i v) b8]
  · intro _ _ _
    simp only [xC]
  · intro _ _ _
    simp only [xC]
  · intro v _ _
    simp only [xC, b7 i v]
  · intro v _ _
    simp only [xC]
    congr 5
    funext j
    by_cases c : j < 4
    · rw [if_pos c, if_pos c, xr_eq n0 (f18 i v j c) b3]
    · rw [if_neg c, if_neg c]
  · intro v _ _
    by_cases c : S 20 i < 0
    · simp only [xC, if_pos c]
    · simp only [xC, if_neg c, hB 9 i ⟨v, Int32.not_lt.mp c⟩ (fun q => by omega), hB 10 i ⟨v, Int32.not_lt.mp c⟩ (fun q => by omega)]
  · intro _ _ _
    simp only [xC]
  · intro _ _ _
    simp only [xC]
  · intro v _ _
    obtain ⟨p, hp, ep⟩ := f24 i v
    have e : B' 3 (ix (S 24 i)) = B 3 (ix (S 24 i)) := by rw [ep, ix_nI (by omega)]; exact b3 p hp
    simp only [xC, e]
  · intro v _ _
    obtain ⟨⟨d, hd, ed⟩, ⟨f, hf, ef⟩⟩ := f30 i v
    have e1 : B' 8 (ix (S 30 i)) = B 8 (ix (S 30 i)) := by rw [ed, ix_nI (by omega)]; exact b8 d hd
    have e2 : B' 8 (ix (S 31 i)) = B 8 (ix (S 31 i)) := by rw [ef, ix_nI (by omega)]; exact b8 f hf
    simp only [xC, e1, e2]
  · intro v _ _
    simp only [xC, hB 14 0 rfl (fun q => by omega)]
  · intro _ _ _
    simp only [xC]
  · intro _ _ _
    simp only [xC]
  · intro _ _ _
    simp only [xC]
theorem RX_push {dA : Nat → ClassId} {t0 : Nat} {S : yS} {lf mc : Nat → Int32} {cap : Nat → Nat} {B : Nat → Nat → Nat} {N : Nat → Nat} {h : yH} {h1 h' : yH} {li : Nat} (hli : li < 5) (hR : RX dA t0 S lf mc cap B N h) (hF : RF S N) (hsub : ∀ a e, h a = some e → h1 a = some e) {Y : Nat → Nat} (hY : ∀ k, xnew li k = true → h (Y k) = none) (hYd : ∀ k k', xnew li k = true → xnew li k' = true → Y k = Y k' → k = k')
    (hYc : ∀ ea c2 k, xnew li k = true → xV S (va_up cap li c2) (va_up N li (N li + 1)) k (N li) → h1 (Y k) = some (xC dA S lf (va_up mc li (mc li + 1)) (va_up cap li c2) (pushB B li (N li) ea Y) (va_up N li (N li + 1)) k (N li)))
    (hYn : ∀ k, xnew li k = true → h1 (Y k) ≠ none) (hA : xAdd dA h1 (B 1 li) (B 2 li) (cap li) (N li) (xlist B N li) (mc li) (Y (xkd li)) h') : ∃ ea c2, RX dA t0 S lf (va_up mc li (mc li + 1)) (va_up cap li c2) (pushB B li (N li) ea Y) (va_up N li (N li + 1)) h' := by
  obtain ⟨ea, c2, hea, hn, hc2, rfl⟩ := hA
  obtain ⟨a, b, c⟩ := hR
  refine ⟨ea, c2, ?_⟩
  have hnone : ∀ x, h x ≠ none → h1 x ≠ none := fun x q z => by
    cases e : h x with
    | none => exact q e
    | some y =>
      rw [hsub x y e] at z
      cases z
  have hval : ∀ k i, xV S cap N k i → h (B k i) ≠ none := fun k i v q => by
    rw [a k i v] at q
    cases q
  have v1 : xV S cap N 1 li := hli
  have v2 : ea = B 2 li ∧ c2 = cap li → xV S cap N 2 li := fun q => ⟨hli, by omega⟩
  have oldea : ∀ k i, xV S cap N k i → ¬ (k = 2 ∧ i = li) → B k i ≠ ea := fun k i v ne q => by
    rcases hea with z | z
    · exact ne (b k i 2 li v (v2 z) (q.trans z.1))
    · exact hnone _ (hval k i v) (by rw [q]; exact z)
  have newea : ∀ k, xnew li k = true → Y k ≠ ea := fun k hk q => by
    rcases hea with z | z
    · have := hval 2 li (v2 z)
      rw [← z.1, ← q] at this
      exact this (hY k hk)
    · exact hYn k hk (by rw [q]; exact z)
  have newold : ∀ k k' i, xnew li k = true → xV S cap N k' i → Y k ≠ B k' i := fun k k' i hk v q => hval k' i v (by rw [← q]; exact hY k hk)
  have hB : ∀ k i, xV S cap N k i → ¬ (k = 2 ∧ i = li) → pushB B li (N li) ea Y k i = B k i := fun k i v ne => by
    unfold pushB
    rw [if_neg ne, if_neg]
    intro q
    have := xV_new li hli q.1 v
    omega
  have hB2 : pushB B li (N li) ea Y 2 li = ea := if_pos ⟨rfl, rfl⟩
  have hBn : ∀ k, xnew li k = true → pushB B li (N li) ea Y k (N li) = Y k := fun k hk => by
    unfold pushB
    rw [if_neg, if_pos ⟨hk, rfl⟩]
    intro q
    rw [q.1] at hk
    exact absurd hk (by
      have : ∀ l, l < 5 → xnew l 2 ≠ true := i5 (by decide) (by decide) (by decide) (by decide) (by decide)
      exact this li hli)
  have ea1 : ea ≠ B 1 li := fun q => (oldea 1 li v1 (fun z => by omega)) q.symm
  refine ⟨fun k i v => ?_, fun k i k' i' v v' e => ?_, fun i hi => ?_⟩
  · by_cases z2 : k = 2 ∧ i = li
    · obtain ⟨rfl, rfl⟩ := z2
      rw [hB2, va_up_ne' _ _ ea1, va_up_self']
      simp only [xC, va_up_self']
      congr 5
      funext j
      by_cases q1 : j < N i
      · have ne : ¬ (xkd i = 2 ∧ j = i) := fun z => xkd_2 i hli z.1
        rw [if_pos q1, if_pos (by omega), hB (xkd i) j (xkd_V i hli q1) ne]
        unfold xlist
        rw [if_pos q1]
      · by_cases q2 : j = N i
        · rw [if_neg q1, if_pos q2, if_pos (by omega), q2, hBn (xkd i) (xkd_new i hli)]
        · rw [if_neg q1, if_neg q2, if_neg (by omega)]
    · by_cases zn : xnew li k = true ∧ i = N li
      · obtain ⟨hk, rfl⟩ := zn
        rw [hBn k hk, va_up_ne' _ _ (newold k 1 li hk v1), va_up_ne' _ _ (newea k hk)]
        exact hYc ea c2 k hk v
      · have vo := push_V v z2 zn
        rw [hB k i vo z2]
        by_cases z1 : k = 1 ∧ i = li
        · obtain ⟨rfl, rfl⟩ := z1
          rw [va_up_self']
          simp only [xC, va_up_self', hB2]
        · rw [va_up_ne' _ _ (fun q => z1 (b k i 1 li vo v1 q)), va_up_ne' _ _ (oldea k i vo z2), push_C (t0 := t0) (h := h) hF hB (fun i hi hc ne => by
            unfold pushB
            rw [if_neg (fun q => ne q.2), if_neg]
            intro q
            exact absurd q.1 (by
              have : ∀ l, l < 5 → xnew l 2 ≠ true := i5 (by decide) (by decide) (by decide) (by decide) (by decide)
              exact this li hli)) vo z1 z2]
          exact hsub _ _ (a k i vo)
  · -- one address, one thing
    have cls : ∀ k i, xV S (va_up cap li c2) (va_up N li (N li + 1)) k i → (k = 2 ∧ i = li) ∨ (xnew li k = true ∧ i = N li) ∨ (xV S cap N k i ∧ ¬ (k = 2 ∧ i = li)) := fun k i v => by
      by_cases z2 : k = 2 ∧ i = li
      · exact Or.inl z2
      · by_cases zn : xnew li k = true ∧ i = N li
        · exact Or.inr (Or.inl zn)
        · exact Or.inr (Or.inr ⟨push_V v z2 zn, z2⟩)
    rcases cls k i v with ⟨rfl, rfl⟩ | ⟨hk, rfl⟩ | ⟨vo, z2⟩
    · rw [hB2] at e
      rcases cls k' i' v' with ⟨rfl, rfl⟩ | ⟨hk', rfl⟩ | ⟨vo', z2'⟩
      · exact ⟨rfl, rfl⟩
      · rw [hBn k' hk'] at e
        exact absurd e.symm (newea k' hk')
      · rw [hB k' i' vo' z2'] at e
        exact absurd e.symm (oldea k' i' vo' z2')
    · rw [hBn k hk] at e
      rcases cls k' i' v' with ⟨rfl, rfl⟩ | ⟨hk', rfl⟩ | ⟨vo', z2'⟩
      · rw [hB2] at e
        exact absurd e (newea k hk)
      · rw [hBn k' hk'] at e
        exact ⟨hYd k k' hk hk' e, rfl⟩
      · rw [hB k' i' vo' z2'] at e
        exact absurd e (newold k k' i' hk vo')
    · rw [hB k i vo z2] at e
      rcases cls k' i' v' with ⟨rfl, rfl⟩ | ⟨hk', rfl⟩ | ⟨vo', z2'⟩
      · rw [hB2] at e
        exact absurd e (oldea k i vo z2)
      · rw [hBn k' hk'] at e
        exact absurd e.symm (newold k' k i hk' vo)
      · rw [hB k' i' vo' z2'] at e
        exact b k i k' i' vo vo' e
  · by_cases z : i = li
    · subst z
      rw [va_up_self', va_up_self']
      refine ⟨fun _ => ⟨by omega, ?_⟩, fun q => by omega⟩
      rcases hc2 with q | q | q | q
      · rw [q]
        exact ((c i hli).1 (by omega)).2
      · exact Or.inl q
      · exact Or.inr (Or.inl q)
      · exact Or.inr (Or.inr q)
    · rw [va_up_ne' _ _ z, va_up_ne' _ _ z]
      have q : pushB B li (N li) ea Y 2 i = B 2 i := by
        unfold pushB
        rw [if_neg (fun q => z q.2), if_neg]
        intro q
        exact absurd q.1 (by
          have : ∀ l, l < 5 → xnew l 2 ≠ true := i5 (by decide) (by decide) (by decide) (by decide) (by decide)
          exact this li hli)
      rw [q]
      exact c i hi
section X21
variable {D : va_G} {dA : Nat → ClassId} {t0 mi : Nat} {S : yS} {lf mc : Nat → Int32} {cap : Nat → Nat} {B : Nat → Nat → Nat} {N : Nat → Nat}
variable {t : Nat}
theorem jl_add {h0 h1 : yH} {li : Nat} (hli : li < 5) (hR : RX dA t0 S lf mc cap B N h0) (hF : RF S N) (hsub : ∀ a e, h0 a = some e → h1 a = some e) {Y : Nat → Nat} (hY : ∀ k, xnew li k = true → h0 (Y k) = none) (hYd : ∀ k k', xnew li k = true → xnew li k' = true → Y k = Y k' → k = k')
    (hYc : ∀ ea c2 k, xnew li k = true → xV S (va_up cap li c2) (va_up N li (N li + 1)) k (N li) → h1 (Y k) = some (xC dA S lf (va_up mc li (mc li + 1)) (va_up cap li c2) (pushB B li (N li) ea Y) (va_up N li (N li + 1)) k (N li)))
    (hYn : ∀ k, xnew li k = true → h1 (Y k) ≠ none) {vs : List Value} (hv : h1 (Y (xkd li)) = some (.inr (xcl li, vs))) : yM (yZ t0 mi D dA) D yJx4a65c_add_9ea2d cJx4a65c_add_9ea2d 2 (some .boolean) 6 1 30 [.ref (B 1 li), .ref (Y (xkd li))] h1 (fun r h' => r = some (.int 1) ∧ ∃ ea c2, RX dA t0 S lf (va_up mc li (mc li + 1)) (va_up cap li c2) (pushB B li (N li) ea Y) (va_up N li (N li + 1)) h') := by
  obtain ⟨c1, c0⟩ := hR.2.2 li hli
  obtain ⟨r, hr1, hr2⟩ := xcast (t0 := t0) (mi := mi) (D := D) (dA := dA) li hli
  have nl : N li ≤ 16 := hF.2.2.2.2.2 li hli
  have ne : Y (xkd li) ≠ B 1 li := fun q => by
    have := hY (xkd li) (xkd_new li hli)
    rw [q, rx1 hR hli] at this
    cases this
  have q := jc_add (D := D) (dA := dA) (t0 := t0) (mi := mi) (B 1 li) (B 2 li) (Y (xkd li)) (N li) (cap li) (xcl li) (mc li) (xlist B N li) vs r h1 (hsub _ _ (rx1 hR hli)) (by
    rcases Nat.eq_zero_or_pos (cap li) with z | z
    · exact Or.inr ⟨z, (c0 z).1, (c0 z).2⟩
    · refine Or.inl ⟨z, hsub _ _ (rx2 hR hli z), (c1 z).1, ?_, fun e => ?_⟩
      · have := (c1 z).2
        omega
      · have := (c1 z).2
        omega) (fun j hj => by unfold xlist; rw [if_neg (by omega)]) (xhel hR hsub hli) hv hr1 hr2 ne
  refine yM_mono q (fun r h' hq => ⟨hq.1, RX_push hli hR hF hsub hY hYd hYc hYn hq.2⟩)
end X21
