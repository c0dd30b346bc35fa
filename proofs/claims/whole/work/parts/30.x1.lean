/-! the class: its objects' cells as a function of the same state S; B k i: the address of the i-th thing of kind k
 0 the keeper, 1 the lists (phases, stages, detectors, orders, pairs), 2 their arrays, 3 phases, 4 clearings, 5 lightsBehind, 6 stages, 7 places, 8 detectors, 9 passings, 10 occupied, 11 orders, 12 pairs, 13 findings, 14 byKind, 15 faults, 16 bodies -/
def xr (f : Nat → Nat) (x : Int32) : Option Nat := if x < 0 then none else some (f (ix x))
def xkd : Nat → Nat
  | 0 => 3
  | 1 => 6
  | 2 => 8
  | 3 => 11
  | _ => 12
def xK (S : yS) (B : Nat → Nat → Nat) : List Value := [.ref (B 1 0), .ref (B 1 1), .ref (B 1 2), .ref (B 1 3), .ref (B 1 4), .ref (B 13 0), .ref (B 15 0), .ref (B 16 0), .int (S 0 0), .int (S 49 0), va_rf (xr (B 6) (S 34 0)), .int (S 35 0), .int (S 36 0), .int (S 37 0), va_rf (xr (B 6) (S 39 0)), .int (S 38 0)]
def xP (S : yS) (lf : Nat → Int32) (B : Nat → Nat → Nat) (p : Nat) : List Value := [.int (nI p), .int (S 2 p), .ref (B 4 p), .ref (B 5 p), va_rf (xr (B 8) (S 4 p)), .int (S 14 p), .int (S 3 p), .int (S 15 p), .int (S 10 p), .int (S 8 p), .int (S 9 p), .int (S 11 p), .int (S 12 p), .int (S 13 p), .int (S 6 p), .int (S 7 p), .int (S 5 p), .int (lf p)]
def xC (dA : Nat → ClassId) (S : yS) (lf mc : Nat → Int32) (cap : Nat → Nat) (B : Nat → Nat → Nat) (N : Nat → Nat) : Nat → Nat → va_E
  | 0, _ => .inr (9, xK S B)
  | 1, i => .inr (0, [.int (mc i), .ref (B 2 i), .int (nI (N i))])
  | 2, i => .inl (dA 5, cap i, yQ (fun j => if j < N i then some (B (xkd i) j) else none))
  | 3, p => .inr (7, xP S lf B p)
  | 4, p => .inl (dA 0, 8, .inl (fun q => if q < 8 then (if 0 < S 16 (8 * p + q) then S 16 (8 * p + q) - 1 else -5) else 0))
  | 5, p => .inl (dA 0, 61, .inl (fun i => if i < 61 then S 51 (8 * i + p) else 0))
  | 6, s => .inr (8, [.int (nI s), .ref (B 7 s)])
  | 7, s => .inl (dA 4, 4, yQ (fun k => if k < 4 then xr (B 3) (S 18 (4 * s + k)) else none))
  | 8, d => .inr (2, if S 20 d < 0 then [.int (nI d), .null, .null, .int 0] else [.int (nI d), .ref (B 9 d), .ref (B 10 d), .int (S 20 d)])
  | 9, d => .inl (dA 1, 200, .inl (fun i => if i < ix (S 20 d) then S 21 (200 * d + i) else 0))
  | 10, d => .inl (dA 2, 200, .inl (fun i => if i < ix (S 20 d) then S 22 (200 * d + i) else 0))
  | 11, k => .inr (5, [.ref (B 3 (ix (S 24 k))), .int (S 25 k), .int (S 26 k), .int (S 27 k), .int (S 28 k)])
  | 12, k => .inr (6, [.ref (B 8 (ix (S 30 k))), .ref (B 8 (ix (S 31 k))), .int (S 32 k), .int (S 33 k)])
  | 13, _ => .inr (4, [.ref (B 14 0), .int (S 47 0), .int (S 48 0)])
  | 14, _ => .inl (dA 0, 5, .inl (fun i => if i < 5 then S 46 i else 0))
  | 15, _ => .inr (3, [.int (S 45 0), .int (S 41 0), .int (S 42 0), .int (S 44 0), .int (S 40 0)])
  | 16, _ => .inr (1, [.int (S 50 0)])
  | _, _ => .inr (0, [])
/-- the rows of S that a kind's cells hold -/
def xRows : Nat → List Nat
  | 0 => [0, 49, 34, 35, 36, 37, 39, 38]
  | 3 => [2, 4, 14, 3, 15, 10, 8, 9, 11, 12, 13, 6, 7, 5]
  | 4 => [16]
  | 5 => [51]
  | 7 => [18]
  | 8 => [20]
  | 9 => [20, 21]
  | 10 => [20, 22]
  | 11 => [24, 25, 26, 27, 28]
  | 12 => [30, 31, 32, 33]
  | 13 => [47, 48]
  | 14 => [46]
  | 15 => [45, 41, 42, 44, 40]
  | 16 => [50]
  | _ => []
def xV (S : yS) (cap N : Nat → Nat) : Nat → Nat → Prop
  | 0, i => i = 0
  | 1, i => i < 5
  | 2, i => i < 5 ∧ 0 < cap i
  | 3, i => i < N 0
  | 4, i => i < N 0
  | 5, i => i < N 0
  | 6, i => i < N 1
  | 7, i => i < N 1
  | 8, i => i < N 2
  | 9, i => i < N 2 ∧ 0 ≤ S 20 i
  | 10, i => i < N 2 ∧ 0 ≤ S 20 i
  | 11, i => i < N 3
  | 12, i => i < N 4
  | 13, i => i = 0
  | 14, i => i = 0
  | 15, i => i = 0
  | 16, i => i = 0
  | _, _ => False
def RX (dA : Nat → ClassId) (t0 : Nat) (S : yS) (lf mc : Nat → Int32) (cap : Nat → Nat) (B : Nat → Nat → Nat) (N : Nat → Nat) (h : yH) : Prop :=
  (∀ k i, xV S cap N k i → h (B k i) = some (xC dA S lf mc cap B N k i)) ∧
  (∀ k i k' i', xV S cap N k i → xV S cap N k' i' → B k i = B k' i' → k = k' ∧ i = i') ∧
  (∀ i, i < 5 → (0 < cap i → N i ≤ cap i ∧ (cap i = 10 ∨ cap i = 15 ∨ cap i = 22)) ∧ (cap i = 0 → B 2 i = t0 ∧ N i = 0))
theorem c17 {P : Nat → Prop} (h0 : P 0) (h1 : P 1) (h2 : P 2) (h3 : P 3) (h4 : P 4) (h5 : P 5) (h6 : P 6) (h7 : P 7) (h8 : P 8) (h9 : P 9) (h10 : P 10) (h11 : P 11) (h12 : P 12) (h13 : P 13) (h14 : P 14) (h15 : P 15) (h16 : P 16) : ∀ k, k < 17 → P k
  | 0, _ => h0
  | 1, _ => h1
  | 2, _ => h2
  | 3, _ => h3
  | 4, _ => h4
  | 5, _ => h5
  | 6, _ => h6
  | 7, _ => h7
  | 8, _ => h8
  | 9, _ => h9
  | 10, _ => h10
  | 11, _ => h11
  | 12, _ => h12
  | 13, _ => h13
  | 14, _ => h14
  | 15, _ => h15
  | 16, _ => h16
  | (n + 17), h => absurd h (by omega)
theorem xC_rows {dA : Nat → ClassId} {S S' : yS} {lf mc : Nat → Int32} {cap : Nat → Nat} {B : Nat → Nat → Nat} {N : Nat → Nat} {k i : Nat} (hk : k < 17) (e : ∀ q, (xRows k).contains q = true → S' q = S q) : xC dA S' lf mc cap B N k i = xC dA S lf mc cap B N k i := by
  revert e
  refine c17 (P := fun k => (∀ q, (xRows k).contains q = true → S' q = S q) → xC dA S' lf mc cap B N k i = xC dA S lf mc cap B N k i) ?_ ?_ ?_ ?_ ?_ ?_ ?_ ?_ ?_ ?_ ?_ ?_ ?_ ?_ ?_ ?_ ?_ k hk
  · intro e
    simp only [xC, xK, e 0 rfl, e 49 rfl, e 34 rfl, e 35 rfl, e 36 rfl, e 37 rfl, e 39 rfl, e 38 rfl]
  · intro e
    simp only [xC]
  · intro e
    simp only [xC]
  · intro e
    simp only [xC, xP, e 2 rfl, e 4 rfl, e 14 rfl, e 3 rfl, e 15 rfl, e 10 rfl, e 8 rfl, e 9 rfl, e 11 rfl, e 12 rfl, e 13 rfl, e 6 rfl, e 7 rfl, e 5 rfl]
  · intro e
    simp only [xC, e 16 rfl]
  · intro e
    simp only [xC, e 51 rfl]
  · intro e
    simp only [xC]
  · intro e
    simp only [xC, e 18 rfl]
  · intro e
    simp only [xC, e 20 rfl]
  · intro e
    simp only [xC, e 20 rfl, e 21 rfl]
  · intro e
    simp only [xC, e 20 rfl, e 22 rfl]
  · intro e
    simp only [xC, e 24 rfl, e 25 rfl, e 26 rfl, e 27 rfl, e 28 rfl]
  · intro e
    simp only [xC, e 30 rfl, e 31 rfl, e 32 rfl, e 33 rfl]
  · intro e
    simp only [xC, e 47 rfl, e 48 rfl]
  · intro e
    simp only [xC, e 46 rfl]
  · intro e
    simp only [xC, e 45 rfl, e 41 rfl, e 42 rfl, e 44 rfl, e 40 rfl]
  · intro e
    simp only [xC, e 50 rfl]
theorem xC_ne {dA : Nat → ClassId} {S : yS} {lf mc : Nat → Int32} {cap : Nat → Nat} {B : Nat → Nat → Nat} {N : Nat → Nat} {k i r j : Nat} {v : Int32} (hk : k < 17) (hr : (xRows k).contains r = false) : xC dA (mset S r j v) lf mc cap B N k i = xC dA S lf mc cap B N k i :=
  xC_rows hk (fun q hq => mset_ne S v (fun z => by rw [z, hr] at hq; cases hq))
theorem xV_lt {S : yS} {cap N : Nat → Nat} {k i : Nat} (h : xV S cap N k i) : k < 17 := by
  match k, h with
  | 0, _ => decide
  | 1, _ => decide
  | 2, _ => decide
  | 3, _ => decide
  | 4, _ => decide
  | 5, _ => decide
  | 6, _ => decide
  | 7, _ => decide
  | 8, _ => decide
  | 9, _ => decide
  | 10, _ => decide
  | 11, _ => decide
  | 12, _ => decide
  | 13, _ => decide
  | 14, _ => decide
  | 15, _ => decide
  | 16, _ => decide
  | (n + 17), h => exact h.elim
theorem xV_eq {S S' : yS} {cap N : Nat → Nat} (h : S' 20 = S 20) (k i : Nat) : xV S' cap N k i ↔ xV S cap N k i := by
  by_cases hk : k < 17
  · refine c17 (P := fun k => xV S' cap N k i ↔ xV S cap N k i) ?_ ?_ ?_ ?_ ?_ ?_ ?_ ?_ ?_ ?_ ?_ ?_ ?_ ?_ ?_ ?_ ?_ k hk
    · simp only [xV]
    · simp only [xV]
    · simp only [xV]
    · simp only [xV]
    · simp only [xV]
    · simp only [xV]
    · simp only [xV]
    · simp only [xV]
    · simp only [xV]
    · simp only [xV, h]
    · simp only [xV, h]
    · simp only [xV]
    · simp only [xV]
    · simp only [xV]
    · simp only [xV]
    · simp only [xV]
    · simp only [xV]
  · exact ⟨fun q => absurd (xV_lt q) hk, fun q => absurd (xV_lt q) hk⟩
theorem RX_set {dA : Nat → ClassId} {t0 : Nat} {S S' : yS} {lf lf' mc mc' : Nat → Int32} {cap : Nat → Nat} {B : Nat → Nat → Nat} {N : Nat → Nat} {h : yH} (hR : RX dA t0 S lf mc cap B N h) {k i : Nat} (v : xV S cap N k i) (h20 : S' 20 = S 20)
    (hC : ∀ k' i', xV S cap N k' i' → ¬ (k' = k ∧ i' = i) → xC dA S' lf' mc' cap B N k' i' = xC dA S lf mc cap B N k' i') : RX dA t0 S' lf' mc' cap B N (va_up h (B k i) (some (xC dA S' lf' mc' cap B N k i))) := by
  obtain ⟨a, b, c⟩ := hR
  refine ⟨fun k' i' v' => ?_, fun k1 i1 k2 i2 v1 v2 e => b k1 i1 k2 i2 ((xV_eq h20 _ _).mp v1) ((xV_eq h20 _ _).mp v2) e, c⟩
  have v'' := (xV_eq h20 k' i').mp v'
  by_cases e : k' = k ∧ i' = i
  · obtain ⟨rfl, rfl⟩ := e
    simp [va_up]
  · have ne : B k' i' ≠ B k i := fun z => e (b k' i' k i v'' v z)
    simp only [va_up, if_neg ne]
    rw [hC k' i' v'' e]
    exact a k' i' v''
theorem RX_row {dA : Nat → ClassId} {t0 : Nat} {S : yS} {lf mc : Nat → Int32} {cap : Nat → Nat} {B : Nat → Nat → Nat} {N : Nat → Nat} {h : yH} (hR : RX dA t0 S lf mc cap B N h) {k i r j : Nat} {u : Int32} (v : xV S cap N k i) (hr : r ≠ 20) (hk : ∀ k', k' < 17 → k' ≠ k → (xRows k').contains r = false)
    (hi : ∀ i', xV S cap N k i' → i' ≠ i → xC dA (mset S r j u) lf mc cap B N k i' = xC dA S lf mc cap B N k i') : RX dA t0 (mset S r j u) lf mc cap B N (va_up h (B k i) (some (xC dA (mset S r j u) lf mc cap B N k i))) := by
  refine RX_set hR v (mset_ne S u (Ne.symm hr)) (fun k' i' v' ne => ?_)
  by_cases e : k' = k
  · subst e
    exact hi i' v' (fun z => ne ⟨rfl, z⟩)
  · exact xC_ne (xV_lt v') (hk k' (xV_lt v') e)
theorem mset_oth (S : yS) {r p q : Nat} (v : Int32) (k : Nat) (h : q ≠ p) : mset S r p v k q = S k q := by
  by_cases e : k = r
  · subst e
    rw [mset_at, if_neg h]
  · rw [mset_ne S v e]
theorem xP_oth {S : yS} {lf : Nat → Int32} {B : Nat → Nat → Nat} {r p q : Nat} {v : Int32} (h : q ≠ p) : xP (mset S r p v) lf B q = xP S lf B q := by
  simp only [xP, mset_oth S v _ h]
/-- the class's state between calls -/
def RXs (dA : Nat → ClassId) (t0 : Nat) (S : yS) (x0 : Nat) (N : Nat → Nat) (h : yH) : Prop := ∃ (mc : Nat → Int32) (cap : Nat → Nat) (B : Nat → Nat → Nat), B 0 0 = x0 ∧ RX dA t0 S (S 5) mc cap B N h
