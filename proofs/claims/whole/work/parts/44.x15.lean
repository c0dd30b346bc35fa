/-! lists -/
def xcl : Nat → Nat
  | 0 => 7
  | 1 => 8
  | 2 => 2
  | 3 => 5
  | _ => 6
theorem i5 {P : Nat → Prop} (h0 : P 0) (h1 : P 1) (h2 : P 2) (h3 : P 3) (h4 : P 4) : ∀ i, i < 5 → P i
  | 0, _ => h0
  | 1, _ => h1
  | 2, _ => h2
  | 3, _ => h3
  | 4, _ => h4
  | (n + 5), h => absurd h (by omega)
theorem xcast {t0 mi : Nat} {D : va_G} {dA : Nat → ClassId} : ∀ li, li < 5 → ∃ r : vw_C, vwCl[xcl li]? = some r ∧ ∀ (A : Nat → Prop) (U : State), yZ t0 mi D dA A U → va_Nw (.castable r.1 "java/lang/Object") U := by
  refine i5 ?_ ?_ ?_ ?_ ?_
  · exact ⟨_, rfl, fun A U h => h.2.2.1.1⟩
  · exact ⟨_, rfl, fun A U h => h.2.2.1.2.1⟩
  · exact ⟨_, rfl, fun A U h => h.2.2.1.2.2.1⟩
  · exact ⟨_, rfl, fun A U h => h.2.2.1.2.2.2.1⟩
  · exact ⟨_, rfl, fun A U h => h.2.2.1.2.2.2.2⟩
theorem xcell {dA : Nat → ClassId} {t0 : Nat} {S : yS} {lf mc : Nat → Int32} {cap : Nat → Nat} {B : Nat → Nat → Nat} {N : Nat → Nat} {h : yH} (hR : RX dA t0 S lf mc cap B N h) : ∀ li, li < 5 → ∀ j, j < N li → ∃ vs : List Value, h (B (xkd li) j) = some (.inr (xcl li, vs)) := by
  refine i5 ?_ ?_ ?_ ?_ ?_
  · exact fun j hj => ⟨_, rx3 hR hj⟩
  · exact fun j hj => ⟨_, rx6 hR hj⟩
  · intro j hj
    by_cases c : S 20 j < 0
    · exact ⟨_, rx8c hR hj c⟩
    · exact ⟨_, rx8 hR hj c⟩
  · exact fun j hj => ⟨_, rx11 hR hj⟩
  · exact fun j hj => ⟨_, rx12 hR hj⟩
def xlist (B : Nat → Nat → Nat) (N : Nat → Nat) (li : Nat) : Nat → Option Nat := fun j => if j < N li then some (B (xkd li) j) else none
theorem xhel {mi : Nat} {D : va_G} {dA : Nat → ClassId} {t0 : Nat} {S : yS} {lf mc : Nat → Int32} {cap : Nat → Nat} {B : Nat → Nat → Nat} {N : Nat → Nat} {h : yH} (hR : RX dA t0 S lf mc cap B N h) {hb : yH} (hb' : ∀ a e, h a = some e → hb a = some e) {li : Nat} (hl : li < 5) : ∀ j y, xlist B N li j = some y → ∃ (ci : Nat) (vs : List Value) (r : vw_C), hb y = some (.inr (ci, vs)) ∧ vwCl[ci]? = some r ∧ ∀ (A : Nat → Prop) (U : State), yZ t0 mi D dA A U → va_Nw (.castable r.1 "java/lang/Object") U := by
  intro j y hy
  unfold xlist at hy
  by_cases c : j < N li
  · rw [if_pos c] at hy
    cases hy
    obtain ⟨vs, e⟩ := xcell hR li hl j c
    obtain ⟨r, h1, h2⟩ := xcast (t0 := t0) (mi := mi) (D := D) (dA := dA) li hl
    exact ⟨_, vs, r, hb' _ _ e, h1, h2⟩
  · rw [if_neg c] at hy
    cases hy
/-- the orders, seen through g -/
def pS (g : Nat → Nat) (S : yS) : yS := fun r j => if 24 ≤ r ∧ r ≤ 28 then S r (g j) else S r j
def pB (g : Nat → Nat) (B : Nat → Nat → Nat) : Nat → Nat → Nat := fun k j => if k = 11 then B 11 (g j) else B k j
theorem pS_ne {g : Nat → Nat} {S : yS} {r : Nat} (h : ¬ (24 ≤ r ∧ r ≤ 28)) : pS g S r = S r := by
  funext j
  simp only [pS, if_neg h]
theorem pB_ne {g : Nat → Nat} {B : Nat → Nat → Nat} {k : Nat} (h : k ≠ 11) : pB g B k = B k := by
  funext j
  simp only [pB, if_neg h]
def skip (i j : Nat) : Nat := if j < i then j else j + 1
theorem RX_rm {dA : Nat → ClassId} {t0 : Nat} {S : yS} {lf mc : Nat → Int32} {cap : Nat → Nat} {B : Nat → Nat → Nat} {N : Nat → Nat} {h : yH} (hR : RX dA t0 S lf mc cap B N h) {i : Nat} (hi : i < N 3) : RX dA t0 (pS (skip i) S) lf (va_up mc 3 (mc 3 + 1)) cap (pB (skip i) B) (va_up N 3 (N 3 - 1)) (va_up (va_up h (B 2 3) (some (.inl (dA 5, cap 3, yQ (fun j => if j < i then xlist B N 3 j else if j < N 3 - 1 then xlist B N 3 (j + 1) else none))))) (B 1 3) (some (.inr (0, [.int (mc 3 + 1), .ref (B 2 3), .int (nI (N 3 - 1))])))) := by
  obtain ⟨a, b, c⟩ := hR
  have hcap : 0 < cap 3 := by
    rcases Nat.eq_zero_or_pos (cap 3) with z | z
    · have := ((c 3 (by decide)).2 z).2
      omega
    · exact z
  have v1 : xV S cap N 1 3 := show 3 < 5 by decide
  have v2 : xV S cap N 2 3 := ⟨by decide, hcap⟩
  have n0 : (va_up N 3 (N 3 - 1)) 0 = N 0 := rfl
  have n1 : (va_up N 3 (N 3 - 1)) 1 = N 1 := rfl
  have n2 : (va_up N 3 (N 3 - 1)) 2 = N 2 := rfl
  have n3 : (va_up N 3 (N 3 - 1)) 3 = N 3 - 1 := rfl
  have n4 : (va_up N 3 (N 3 - 1)) 4 = N 4 := rfl
  have sk : ∀ j, j < N 3 - 1 → skip i j < N 3 := fun j hj => by
    unfold skip
    split <;> omega
  -- a valid place's old place
  have vo : ∀ k j, k < 17 → k ≠ 11 → xV (pS (skip i) S) cap (va_up N 3 (N 3 - 1)) k j → xV S cap N k j := by
    intro k j hk
    refine c17 (P := fun k => k ≠ 11 → xV (pS (skip i) S) cap (va_up N 3 (N 3 - 1)) k j → xV S cap N k j) ?_ ?_ ?_ ?_ ?_ ?_ ?_ ?_ ?_ ?_ ?_ ?_ ?_ ?_ ?_ ?_ ?_ k hk
    all_goals intro z
    all_goals first | (exact absurd rfl z) | (simp only [xV, n0, n1, n2, n4, pS_ne (g := skip i) (S := S) (r := 20) (by decide)]; exact fun q => q)
  have other : ∀ k j, xV S cap N k j → ¬ (k = 1 ∧ j = 3) → ¬ (k = 2 ∧ j = 3) → (va_up (va_up h (B 2 3) (some (.inl (dA 5, cap 3, yQ (fun j => if j < i then xlist B N 3 j else if j < N 3 - 1 then xlist B N 3 (j + 1) else none))))) (B 1 3) (some (.inr (0, [.int (mc 3 + 1), .ref (B 2 3), .int (nI (N 3 - 1))])))) (B k j) = h (B k j) := by
    intro k j v z1 z2
    rw [va_up_ne' _ _ (fun q => z1 (b k j 1 3 v v1 q)), va_up_ne' _ _ (fun q => z2 (b k j 2 3 v v2 q))]
  have n12 : B 2 3 ≠ B 1 3 := fun q => by
    have := (b 2 3 1 3 v2 v1 q).1
    omega
  have inj : ∀ x y, x < N 3 → y < N 3 → B 11 x = B 11 y → x = y := fun x y hx hy q => (b 11 x 11 y hx hy q).2
  refine ⟨fun k j hv => ?_, fun k j k' j' h1 h2 e => ?_, fun j hj => ?_⟩
  · have hk := xV_lt hv
    by_cases c11 : k = 11
    · subst c11
      have hj : j < N 3 - 1 := hv
      have e1 : pB (skip i) B 11 j = B 11 (skip i j) := by simp [pB]
      rw [e1, other 11 _ (sk j hj) (by omega) (by omega), a 11 _ (sk j hj)]
      simp only [xC, pB_ne (g := skip i) (B := B) (k := 3) (by decide)]
      simp [pS]
    · have hv' := vo k j hk c11 hv
      rw [pB_ne c11]
      by_cases z1 : k = 1 ∧ j = 3
      · obtain ⟨rfl, rfl⟩ := z1
        rw [va_up_self']
        simp only [xC, n3, pB_ne (g := skip i) (B := B) (k := 2) (by decide), va_up_self']
      · by_cases z2 : k = 2 ∧ j = 3
        · obtain ⟨rfl, rfl⟩ := z2
          rw [va_up_ne' _ _ n12, va_up_self']
          simp only [xC, n3]
          congr 5
          funext q
          unfold xlist
          by_cases q1 : q < i
          · have q2 : q < N 3 - 1 := by omega
            have q3 : q < N 3 := by omega
            simp [q1, q2, q3, pB, xkd, skip]
          · by_cases q2 : q < N 3 - 1
            · have q3 : q + 1 < N 3 := by omega
              simp [q1, q2, q3, pB, xkd, skip]
            · simp [q1, q2]
        · rw [other k j hv' z1 z2, a k j hv']
          congr 1
          revert z1 z2 c11 hv'
          have p8 := pB_ne (g := skip i) (B := B) (k := 8) (by decide)
          have p3 := pB_ne (g := skip i) (B := B) (k := 3) (by decide)
          have p6 := pB_ne (g := skip i) (B := B) (k := 6) (by decide)
          have pk : ∀ k, k ≠ 11 → pB (skip i) B k = B k := fun k hk => pB_ne hk
          have ps : ∀ r, ¬ (24 ≤ r ∧ r ≤ 28) → pS (skip i) S r = S r := fun r hr => pS_ne hr
          refine c17 (P := fun k => ¬ k = 11 → xV S cap N k j → ¬ (k = 1 ∧ j = 3) → ¬ (k = 2 ∧ j = 3) → xC dA S lf mc cap B N k j = xC dA (pS (skip i) S) lf (va_up mc 3 (mc 3 + 1)) cap (pB (skip i) B) (va_up N 3 (N 3 - 1)) k j) ?_ ?_ ?_ ?_ ?_ ?_ ?_ ?_ ?_ ?_ ?_ ?_ ?_ ?_ ?_ ?_ ?_ k hk
          · intro _ _ _ _
            simp only [xC, xK, p6, pk 1 (by decide), pk 13 (by decide), pk 15 (by decide), pk 16 (by decide), ps 0 (by decide), ps 49 (by decide), ps 34 (by decide), ps 35 (by decide), ps 36 (by decide), ps 37 (by decide), ps 39 (by decide), ps 38 (by decide)]
          · intro _ v z _
            have hj : j ≠ 3 := fun q => z ⟨rfl, q⟩
            simp only [xC, pk 2 (by decide), va_up_ne' _ _ hj]
          · intro _ v _ z
            have hj : j ≠ 3 := fun q => z ⟨rfl, q⟩
            have hj5 : j < 5 := v.1
            have e : pB (skip i) B (xkd j) = B (xkd j) := pk _ (by
              rcases (by omega : j = 0 ∨ j = 1 ∨ j = 2 ∨ j = 4) with rfl | rfl | rfl | rfl <;> decide)
            simp only [xC, va_up_ne' _ _ hj, e]
          · intro _ _ _ _
            simp only [xC, xP, p8, pk 4 (by decide), pk 5 (by decide), ps 2 (by decide), ps 4 (by decide), ps 14 (by decide), ps 3 (by decide), ps 15 (by decide), ps 10 (by decide), ps 8 (by decide), ps 9 (by decide), ps 11 (by decide), ps 12 (by decide), ps 13 (by decide), ps 6 (by decide), ps 7 (by decide), ps 5 (by decide)]
          · intro _ _ _ _
            simp only [xC, ps 16 (by decide)]
          · intro _ _ _ _
            simp only [xC, ps 51 (by decide)]
          · intro _ _ _ _
            simp only [xC, pk 7 (by decide)]
          · intro _ _ _ _
            simp only [xC, p3, ps 18 (by decide)]
          · intro _ _ _ _
            simp only [xC, pk 9 (by decide), pk 10 (by decide), ps 20 (by decide)]
          · intro _ _ _ _
            simp only [xC, ps 20 (by decide), ps 21 (by decide)]
          · intro _ _ _ _
            simp only [xC, ps 20 (by decide), ps 22 (by decide)]
          · intro z
            exact absurd rfl z
          · intro _ _ _ _
            simp only [xC, p8, ps 30 (by decide), ps 31 (by decide), ps 32 (by decide), ps 33 (by decide)]
          · intro _ _ _ _
            simp only [xC, pk 14 (by decide), ps 47 (by decide), ps 48 (by decide)]
          · intro _ _ _ _
            simp only [xC, ps 46 (by decide)]
          · intro _ _ _ _
            simp only [xC, ps 45 (by decide), ps 41 (by decide), ps 42 (by decide), ps 44 (by decide), ps 40 (by decide)]
          · intro _ _ _ _
            simp only [xC, ps 50 (by decide)]
  · have hk := xV_lt h1
    have hk' := xV_lt h2
    have red : ∀ k j, xV (pS (skip i) S) cap (va_up N 3 (N 3 - 1)) k j → ∃ j0, xV S cap N k j0 ∧ pB (skip i) B k j = B k j0 ∧ (k ≠ 11 → j0 = j) ∧ (k = 11 → j0 = skip i j) := by
      intro k j v
      by_cases z : k = 11
      · subst z
        exact ⟨skip i j, sk j v, by simp [pB], fun q => absurd rfl q, fun _ => rfl⟩
      · exact ⟨j, vo k j (xV_lt v) z v, by rw [pB_ne z], fun _ => rfl, fun q => absurd q z⟩
    obtain ⟨x, x1, x2, x3, x4⟩ := red k j h1
    obtain ⟨y, y1, y2, y3, y4⟩ := red k' j' h2
    rw [x2, y2] at e
    obtain ⟨rfl, exy⟩ := b k x k' y x1 y1 e
    refine ⟨rfl, ?_⟩
    by_cases z : k = 11
    · have e1 := x4 z
      have e2 := y4 z
      have : skip i j = skip i j' := by rw [← e1, ← e2, exy]
      unfold skip at this
      split at this <;> split at this <;> omega
    · rw [← x3 z, ← y3 z, exy]
  · obtain ⟨d1, d2⟩ := c j hj
    rw [pB_ne (show (2 : Nat) ≠ 11 by decide)]
    by_cases z : j = 3
    · subst z
      rw [n3]
      exact ⟨fun q => ⟨by have := (d1 q).1; omega, (d1 q).2⟩, fun q => by omega⟩
    · rw [va_up_ne' _ _ z]
      exact ⟨d1, d2⟩
section X15
variable {D : va_G} {dA : Nat → ClassId} {t0 mi : Nat} {S : yS} {lf mc : Nat → Int32} {cap : Nat → Nat} {B : Nat → Nat → Nat} {N : Nat → Nat}
variable {t : Nat}
theorem jl_remove {i : Nat} (hi : i < N 3) (h : yH) (hR : RX dA t0 S lf mc cap B N h) : yM (yZ t0 mi D dA) D yJx4a65c_remove_915e3 cJx4a65c_remove_915e3 4 (some (.object "java/lang/Object")) 2 0 0 [.ref (B 1 3), .int (nI i)] h (fun r h' => r = some (.ref (B 11 i)) ∧ RX dA t0 (pS (skip i) S) lf (va_up mc 3 (mc 3 + 1)) cap (pB (skip i) B) (va_up N 3 (N 3 - 1)) h') := by
  obtain ⟨c1, c2⟩ := hR.2.2 3 (by decide)
  have hc : 0 < cap 3 := by
    rcases Nat.eq_zero_or_pos (cap 3) with z | z
    · have := (c2 z).2
      omega
    · exact z
  have q := jc_remove (D := D) (dA := dA) (t0 := t0) (mi := mi) (B 1 3) (B 2 3) i (N 3) (cap 3) (mc 3) (xlist B N 3) hi (c1 hc).1 (by have := (c1 hc).2; omega) h (rx1 hR (by decide)) (rx2 hR (by decide) hc) (xhel hR (fun _ _ e => e) (by decide)) (fun j hj => by unfold xlist; rw [if_neg (by omega)])
  refine yM_mono q (fun r h' hq => ?_)
  obtain ⟨e1, e2⟩ := hq
  refine ⟨?_, by rw [e2]; exact RX_rm hR hi⟩
  rw [e1]
  unfold xlist
  rw [if_pos hi]
  rfl
end X15
