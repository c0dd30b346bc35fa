theorem rx0 {dA : Nat → ClassId} {t0 : Nat} {S : yS} {lf mc : Nat → Int32} {cap : Nat → Nat} {B : Nat → Nat → Nat} {N : Nat → Nat} {h : yH} (hR : RX dA t0 S lf mc cap B N h)  : h (B 0 0) = some (.inr (9, xK S B)) := by
  have q := hR.1 0 0 rfl
  simpa only [xC] using q
theorem rx1 {dA : Nat → ClassId} {t0 : Nat} {S : yS} {lf mc : Nat → Int32} {cap : Nat → Nat} {B : Nat → Nat → Nat} {N : Nat → Nat} {h : yH} (hR : RX dA t0 S lf mc cap B N h) {i : Nat} (hi : i < 5) : h (B 1 i) = some (.inr (0, [.int (mc i), .ref (B 2 i), .int (nI (N i))])) := by
  have q := hR.1 1 i hi
  simpa only [xC] using q
theorem rx2 {dA : Nat → ClassId} {t0 : Nat} {S : yS} {lf mc : Nat → Int32} {cap : Nat → Nat} {B : Nat → Nat → Nat} {N : Nat → Nat} {h : yH} (hR : RX dA t0 S lf mc cap B N h) {i : Nat} (hi : i < 5) (hc : 0 < cap i) : h (B 2 i) = some (.inl (dA 5, cap i, yQ (fun j => if j < N i then some (B (xkd i) j) else none))) := by
  have q := hR.1 2 i ⟨hi, hc⟩
  simpa only [xC] using q
theorem rx3 {dA : Nat → ClassId} {t0 : Nat} {S : yS} {lf mc : Nat → Int32} {cap : Nat → Nat} {B : Nat → Nat → Nat} {N : Nat → Nat} {h : yH} (hR : RX dA t0 S lf mc cap B N h) {p : Nat} (hp : p < N 0) : h (B 3 p) = some (.inr (7, xP S lf B p)) := by
  have q := hR.1 3 p hp
  simpa only [xC] using q
theorem rx4 {dA : Nat → ClassId} {t0 : Nat} {S : yS} {lf mc : Nat → Int32} {cap : Nat → Nat} {B : Nat → Nat → Nat} {N : Nat → Nat} {h : yH} (hR : RX dA t0 S lf mc cap B N h) {p : Nat} (hp : p < N 0) : h (B 4 p) = some (.inl (dA 0, 8, .inl (fun q => if q < 8 then (if 0 < S 16 (8 * p + q) then S 16 (8 * p + q) - 1 else -5) else 0))) := by
  have q := hR.1 4 p hp
  simpa only [xC] using q
theorem rx5 {dA : Nat → ClassId} {t0 : Nat} {S : yS} {lf mc : Nat → Int32} {cap : Nat → Nat} {B : Nat → Nat → Nat} {N : Nat → Nat} {h : yH} (hR : RX dA t0 S lf mc cap B N h) {p : Nat} (hp : p < N 0) : h (B 5 p) = some (.inl (dA 0, 61, .inl (fun i => if i < 61 then S 51 (8 * i + p) else 0))) := by
  have q := hR.1 5 p hp
  simpa only [xC] using q
theorem rx6 {dA : Nat → ClassId} {t0 : Nat} {S : yS} {lf mc : Nat → Int32} {cap : Nat → Nat} {B : Nat → Nat → Nat} {N : Nat → Nat} {h : yH} (hR : RX dA t0 S lf mc cap B N h) {s : Nat} (hs : s < N 1) : h (B 6 s) = some (.inr (8, [.int (nI s), .ref (B 7 s)])) := by
  have q := hR.1 6 s hs
  simpa only [xC] using q
theorem rx7 {dA : Nat → ClassId} {t0 : Nat} {S : yS} {lf mc : Nat → Int32} {cap : Nat → Nat} {B : Nat → Nat → Nat} {N : Nat → Nat} {h : yH} (hR : RX dA t0 S lf mc cap B N h) {s : Nat} (hs : s < N 1) : h (B 7 s) = some (.inl (dA 4, 4, yQ (fun k => if k < 4 then xr (B 3) (S 18 (4 * s + k)) else none))) := by
  have q := hR.1 7 s hs
  simpa only [xC] using q
theorem rx8c {dA : Nat → ClassId} {t0 : Nat} {S : yS} {lf mc : Nat → Int32} {cap : Nat → Nat} {B : Nat → Nat → Nat} {N : Nat → Nat} {h : yH} (hR : RX dA t0 S lf mc cap B N h) {d : Nat} (hd : d < N 2) (hc : S 20 d < 0) : h (B 8 d) = some (.inr (2, [.int (nI d), .null, .null, .int 0])) := by
  have q := hR.1 8 d hd
  simpa only [xC, if_pos hc] using q
theorem rx8 {dA : Nat → ClassId} {t0 : Nat} {S : yS} {lf mc : Nat → Int32} {cap : Nat → Nat} {B : Nat → Nat → Nat} {N : Nat → Nat} {h : yH} (hR : RX dA t0 S lf mc cap B N h) {d : Nat} (hd : d < N 2) (hc : ¬ S 20 d < 0) : h (B 8 d) = some (.inr (2, [.int (nI d), .ref (B 9 d), .ref (B 10 d), .int (S 20 d)])) := by
  have q := hR.1 8 d hd
  simpa only [xC, if_neg hc] using q
theorem rx9 {dA : Nat → ClassId} {t0 : Nat} {S : yS} {lf mc : Nat → Int32} {cap : Nat → Nat} {B : Nat → Nat → Nat} {N : Nat → Nat} {h : yH} (hR : RX dA t0 S lf mc cap B N h) {d : Nat} (hd : d < N 2) (hc : 0 ≤ S 20 d) : h (B 9 d) = some (.inl (dA 1, 200, .inl (fun i => if i < ix (S 20 d) then S 21 (200 * d + i) else 0))) := by
  have q := hR.1 9 d ⟨hd, hc⟩
  simpa only [xC] using q
theorem rx10 {dA : Nat → ClassId} {t0 : Nat} {S : yS} {lf mc : Nat → Int32} {cap : Nat → Nat} {B : Nat → Nat → Nat} {N : Nat → Nat} {h : yH} (hR : RX dA t0 S lf mc cap B N h) {d : Nat} (hd : d < N 2) (hc : 0 ≤ S 20 d) : h (B 10 d) = some (.inl (dA 2, 200, .inl (fun i => if i < ix (S 20 d) then S 22 (200 * d + i) else 0))) := by
  have q := hR.1 10 d ⟨hd, hc⟩
  simpa only [xC] using q
theorem rx11 {dA : Nat → ClassId} {t0 : Nat} {S : yS} {lf mc : Nat → Int32} {cap : Nat → Nat} {B : Nat → Nat → Nat} {N : Nat → Nat} {h : yH} (hR : RX dA t0 S lf mc cap B N h) {k : Nat} (hk : k < N 3) : h (B 11 k) = some (.inr (5, [.ref (B 3 (ix (S 24 k))), .int (S 25 k), .int (S 26 k), .int (S 27 k), .int (S 28 k)])) := by
  have q := hR.1 11 k hk
  simpa only [xC] using q
theorem rx12 {dA : Nat → ClassId} {t0 : Nat} {S : yS} {lf mc : Nat → Int32} {cap : Nat → Nat} {B : Nat → Nat → Nat} {N : Nat → Nat} {h : yH} (hR : RX dA t0 S lf mc cap B N h) {k : Nat} (hk : k < N 4) : h (B 12 k) = some (.inr (6, [.ref (B 8 (ix (S 30 k))), .ref (B 8 (ix (S 31 k))), .int (S 32 k), .int (S 33 k)])) := by
  have q := hR.1 12 k hk
  simpa only [xC] using q
theorem rx13 {dA : Nat → ClassId} {t0 : Nat} {S : yS} {lf mc : Nat → Int32} {cap : Nat → Nat} {B : Nat → Nat → Nat} {N : Nat → Nat} {h : yH} (hR : RX dA t0 S lf mc cap B N h)  : h (B 13 0) = some (.inr (4, [.ref (B 14 0), .int (S 47 0), .int (S 48 0)])) := by
  have q := hR.1 13 0 rfl
  simpa only [xC] using q
theorem rx14 {dA : Nat → ClassId} {t0 : Nat} {S : yS} {lf mc : Nat → Int32} {cap : Nat → Nat} {B : Nat → Nat → Nat} {N : Nat → Nat} {h : yH} (hR : RX dA t0 S lf mc cap B N h)  : h (B 14 0) = some (.inl (dA 0, 5, .inl (fun i => if i < 5 then S 46 i else 0))) := by
  have q := hR.1 14 0 rfl
  simpa only [xC] using q
theorem rx15 {dA : Nat → ClassId} {t0 : Nat} {S : yS} {lf mc : Nat → Int32} {cap : Nat → Nat} {B : Nat → Nat → Nat} {N : Nat → Nat} {h : yH} (hR : RX dA t0 S lf mc cap B N h)  : h (B 15 0) = some (.inr (3, [.int (S 45 0), .int (S 41 0), .int (S 42 0), .int (S 44 0), .int (S 40 0)])) := by
  have q := hR.1 15 0 rfl
  simpa only [xC] using q
theorem rx16 {dA : Nat → ClassId} {t0 : Nat} {S : yS} {lf mc : Nat → Int32} {cap : Nat → Nat} {B : Nat → Nat → Nat} {N : Nat → Nat} {h : yH} (hR : RX dA t0 S lf mc cap B N h)  : h (B 16 0) = some (.inr (1, [.int (S 50 0)])) := by
  have q := hR.1 16 0 rfl
  simpa only [xC] using q
theorem ru3_5 {dA : Nat → ClassId} {t0 : Nat} {S : yS} {lf mc : Nat → Int32} {cap : Nat → Nat} {B : Nat → Nat → Nat} {N : Nat → Nat} {h : yH} (hR : RX dA t0 S lf mc cap B N h) {p : Nat} (hp : p < N 0) (u : Int32) : RX dA t0 (mset S 14 p u) lf mc cap B N (va_up h (B 3 p) (some (.inr (7, (xP S lf B p).set 5 (.int u))))) := by
  have e : (xP S lf B p).set 5 (.int u) = xP (mset S 14 p u) lf B p := by simp [xP, mset_same, mset_ne]
  rw [e]
  have q := RX_row hR (k := 3) (i := p) (r := 14) (j := p) (u := u) hp (by decide) (by decide) (fun i' _ ne => by simp only [xC, xP_oth ne])
  simpa only [xC] using q
theorem ru3_6 {dA : Nat → ClassId} {t0 : Nat} {S : yS} {lf mc : Nat → Int32} {cap : Nat → Nat} {B : Nat → Nat → Nat} {N : Nat → Nat} {h : yH} (hR : RX dA t0 S lf mc cap B N h) {p : Nat} (hp : p < N 0) (u : Int32) : RX dA t0 (mset S 3 p u) lf mc cap B N (va_up h (B 3 p) (some (.inr (7, (xP S lf B p).set 6 (.int u))))) := by
  have e : (xP S lf B p).set 6 (.int u) = xP (mset S 3 p u) lf B p := by simp [xP, mset_same, mset_ne]
  rw [e]
  have q := RX_row hR (k := 3) (i := p) (r := 3) (j := p) (u := u) hp (by decide) (by decide) (fun i' _ ne => by simp only [xC, xP_oth ne])
  simpa only [xC] using q
theorem ru3_7 {dA : Nat → ClassId} {t0 : Nat} {S : yS} {lf mc : Nat → Int32} {cap : Nat → Nat} {B : Nat → Nat → Nat} {N : Nat → Nat} {h : yH} (hR : RX dA t0 S lf mc cap B N h) {p : Nat} (hp : p < N 0) (u : Int32) : RX dA t0 (mset S 15 p u) lf mc cap B N (va_up h (B 3 p) (some (.inr (7, (xP S lf B p).set 7 (.int u))))) := by
  have e : (xP S lf B p).set 7 (.int u) = xP (mset S 15 p u) lf B p := by simp [xP, mset_same, mset_ne]
  rw [e]
  have q := RX_row hR (k := 3) (i := p) (r := 15) (j := p) (u := u) hp (by decide) (by decide) (fun i' _ ne => by simp only [xC, xP_oth ne])
  simpa only [xC] using q
theorem ru3_8 {dA : Nat → ClassId} {t0 : Nat} {S : yS} {lf mc : Nat → Int32} {cap : Nat → Nat} {B : Nat → Nat → Nat} {N : Nat → Nat} {h : yH} (hR : RX dA t0 S lf mc cap B N h) {p : Nat} (hp : p < N 0) (u : Int32) : RX dA t0 (mset S 10 p u) lf mc cap B N (va_up h (B 3 p) (some (.inr (7, (xP S lf B p).set 8 (.int u))))) := by
  have e : (xP S lf B p).set 8 (.int u) = xP (mset S 10 p u) lf B p := by simp [xP, mset_same, mset_ne]
  rw [e]
  have q := RX_row hR (k := 3) (i := p) (r := 10) (j := p) (u := u) hp (by decide) (by decide) (fun i' _ ne => by simp only [xC, xP_oth ne])
  simpa only [xC] using q
theorem ru3_9 {dA : Nat → ClassId} {t0 : Nat} {S : yS} {lf mc : Nat → Int32} {cap : Nat → Nat} {B : Nat → Nat → Nat} {N : Nat → Nat} {h : yH} (hR : RX dA t0 S lf mc cap B N h) {p : Nat} (hp : p < N 0) (u : Int32) : RX dA t0 (mset S 8 p u) lf mc cap B N (va_up h (B 3 p) (some (.inr (7, (xP S lf B p).set 9 (.int u))))) := by
  have e : (xP S lf B p).set 9 (.int u) = xP (mset S 8 p u) lf B p := by simp [xP, mset_same, mset_ne]
  rw [e]
  have q := RX_row hR (k := 3) (i := p) (r := 8) (j := p) (u := u) hp (by decide) (by decide) (fun i' _ ne => by simp only [xC, xP_oth ne])
  simpa only [xC] using q
theorem ru3_10 {dA : Nat → ClassId} {t0 : Nat} {S : yS} {lf mc : Nat → Int32} {cap : Nat → Nat} {B : Nat → Nat → Nat} {N : Nat → Nat} {h : yH} (hR : RX dA t0 S lf mc cap B N h) {p : Nat} (hp : p < N 0) (u : Int32) : RX dA t0 (mset S 9 p u) lf mc cap B N (va_up h (B 3 p) (some (.inr (7, (xP S lf B p).set 10 (.int u))))) := by
  have e : (xP S lf B p).set 10 (.int u) = xP (mset S 9 p u) lf B p := by simp [xP, mset_same, mset_ne]
  rw [e]
  have q := RX_row hR (k := 3) (i := p) (r := 9) (j := p) (u := u) hp (by decide) (by decide) (fun i' _ ne => by simp only [xC, xP_oth ne])
  simpa only [xC] using q
theorem ru3_11 {dA : Nat → ClassId} {t0 : Nat} {S : yS} {lf mc : Nat → Int32} {cap : Nat → Nat} {B : Nat → Nat → Nat} {N : Nat → Nat} {h : yH} (hR : RX dA t0 S lf mc cap B N h) {p : Nat} (hp : p < N 0) (u : Int32) : RX dA t0 (mset S 11 p u) lf mc cap B N (va_up h (B 3 p) (some (.inr (7, (xP S lf B p).set 11 (.int u))))) := by
  have e : (xP S lf B p).set 11 (.int u) = xP (mset S 11 p u) lf B p := by simp [xP, mset_same, mset_ne]
  rw [e]
  have q := RX_row hR (k := 3) (i := p) (r := 11) (j := p) (u := u) hp (by decide) (by decide) (fun i' _ ne => by simp only [xC, xP_oth ne])
  simpa only [xC] using q
theorem ru3_12 {dA : Nat → ClassId} {t0 : Nat} {S : yS} {lf mc : Nat → Int32} {cap : Nat → Nat} {B : Nat → Nat → Nat} {N : Nat → Nat} {h : yH} (hR : RX dA t0 S lf mc cap B N h) {p : Nat} (hp : p < N 0) (u : Int32) : RX dA t0 (mset S 12 p u) lf mc cap B N (va_up h (B 3 p) (some (.inr (7, (xP S lf B p).set 12 (.int u))))) := by
  have e : (xP S lf B p).set 12 (.int u) = xP (mset S 12 p u) lf B p := by simp [xP, mset_same, mset_ne]
  rw [e]
  have q := RX_row hR (k := 3) (i := p) (r := 12) (j := p) (u := u) hp (by decide) (by decide) (fun i' _ ne => by simp only [xC, xP_oth ne])
  simpa only [xC] using q
theorem ru3_13 {dA : Nat → ClassId} {t0 : Nat} {S : yS} {lf mc : Nat → Int32} {cap : Nat → Nat} {B : Nat → Nat → Nat} {N : Nat → Nat} {h : yH} (hR : RX dA t0 S lf mc cap B N h) {p : Nat} (hp : p < N 0) (u : Int32) : RX dA t0 (mset S 13 p u) lf mc cap B N (va_up h (B 3 p) (some (.inr (7, (xP S lf B p).set 13 (.int u))))) := by
  have e : (xP S lf B p).set 13 (.int u) = xP (mset S 13 p u) lf B p := by simp [xP, mset_same, mset_ne]
  rw [e]
  have q := RX_row hR (k := 3) (i := p) (r := 13) (j := p) (u := u) hp (by decide) (by decide) (fun i' _ ne => by simp only [xC, xP_oth ne])
  simpa only [xC] using q
theorem ru3_14 {dA : Nat → ClassId} {t0 : Nat} {S : yS} {lf mc : Nat → Int32} {cap : Nat → Nat} {B : Nat → Nat → Nat} {N : Nat → Nat} {h : yH} (hR : RX dA t0 S lf mc cap B N h) {p : Nat} (hp : p < N 0) (u : Int32) : RX dA t0 (mset S 6 p u) lf mc cap B N (va_up h (B 3 p) (some (.inr (7, (xP S lf B p).set 14 (.int u))))) := by
  have e : (xP S lf B p).set 14 (.int u) = xP (mset S 6 p u) lf B p := by simp [xP, mset_same, mset_ne]
  rw [e]
  have q := RX_row hR (k := 3) (i := p) (r := 6) (j := p) (u := u) hp (by decide) (by decide) (fun i' _ ne => by simp only [xC, xP_oth ne])
  simpa only [xC] using q
theorem ru3_15 {dA : Nat → ClassId} {t0 : Nat} {S : yS} {lf mc : Nat → Int32} {cap : Nat → Nat} {B : Nat → Nat → Nat} {N : Nat → Nat} {h : yH} (hR : RX dA t0 S lf mc cap B N h) {p : Nat} (hp : p < N 0) (u : Int32) : RX dA t0 (mset S 7 p u) lf mc cap B N (va_up h (B 3 p) (some (.inr (7, (xP S lf B p).set 15 (.int u))))) := by
  have e : (xP S lf B p).set 15 (.int u) = xP (mset S 7 p u) lf B p := by simp [xP, mset_same, mset_ne]
  rw [e]
  have q := RX_row hR (k := 3) (i := p) (r := 7) (j := p) (u := u) hp (by decide) (by decide) (fun i' _ ne => by simp only [xC, xP_oth ne])
  simpa only [xC] using q
theorem ru3_16 {dA : Nat → ClassId} {t0 : Nat} {S : yS} {lf mc : Nat → Int32} {cap : Nat → Nat} {B : Nat → Nat → Nat} {N : Nat → Nat} {h : yH} (hR : RX dA t0 S lf mc cap B N h) {p : Nat} (hp : p < N 0) (u : Int32) : RX dA t0 (mset S 5 p u) lf mc cap B N (va_up h (B 3 p) (some (.inr (7, (xP S lf B p).set 16 (.int u))))) := by
  have e : (xP S lf B p).set 16 (.int u) = xP (mset S 5 p u) lf B p := by simp [xP, mset_same, mset_ne]
  rw [e]
  have q := RX_row hR (k := 3) (i := p) (r := 5) (j := p) (u := u) hp (by decide) (by decide) (fun i' _ ne => by simp only [xC, xP_oth ne])
  simpa only [xC] using q
theorem ru3_17 {dA : Nat → ClassId} {t0 : Nat} {S : yS} {lf mc : Nat → Int32} {cap : Nat → Nat} {B : Nat → Nat → Nat} {N : Nat → Nat} {h : yH} (hR : RX dA t0 S lf mc cap B N h) {p : Nat} (hp : p < N 0) (u : Int32) : RX dA t0 S (va_up lf p u) mc cap B N (va_up h (B 3 p) (some (.inr (7, (xP S lf B p).set 17 (.int u))))) := by
  have e : (xP S lf B p).set 17 (.int u) = xP S (va_up lf p u) B p := by simp [xP, va_up]
  rw [e]
  have q := RX_set hR (S' := S) (lf' := va_up lf p u) (mc' := mc) (k := 3) (i := p) hp rfl (fun k' i' v' ne => ?_)
  · simpa only [xC] using q
  · by_cases e3 : k' = 3
    · subst e3
      have hi : i' ≠ p := fun z => ne ⟨rfl, z⟩
      simp only [xC, xP, va_up, if_neg hi]
    · revert e3
      exact c17 (P := fun k' => ¬ k' = 3 → xC dA S (va_up lf p u) mc cap B N k' i' = xC dA S lf mc cap B N k' i') (fun _ => by simp only [xC]) (fun _ => by simp only [xC]) (fun _ => by simp only [xC]) (fun q => absurd rfl q) (fun _ => by simp only [xC]) (fun _ => by simp only [xC]) (fun _ => by simp only [xC]) (fun _ => by simp only [xC]) (fun _ => by simp only [xC]) (fun _ => by simp only [xC]) (fun _ => by simp only [xC]) (fun _ => by simp only [xC]) (fun _ => by simp only [xC]) (fun _ => by simp only [xC]) (fun _ => by simp only [xC]) (fun _ => by simp only [xC]) (fun _ => by simp only [xC]) k' (xV_lt v')
theorem ru0_8 {dA : Nat → ClassId} {t0 : Nat} {S : yS} {lf mc : Nat → Int32} {cap : Nat → Nat} {B : Nat → Nat → Nat} {N : Nat → Nat} {h : yH} (hR : RX dA t0 S lf mc cap B N h) (u : Int32) : RX dA t0 (mset S 0 0 u) lf mc cap B N (va_up h (B 0 0) (some (.inr (9, (xK S B).set 8 (.int u))))) := by
  have e : (xK S B).set 8 (.int u) = xK (mset S 0 0 u) B := by simp [xK, mset_same, mset_ne]
  rw [e]
  have q := RX_row hR (k := 0) (i := 0) (r := 0) (j := 0) (u := u) rfl (by decide) (by decide) (fun i' v' ne => absurd v' ne)
  simpa only [xC] using q
theorem ru0_9 {dA : Nat → ClassId} {t0 : Nat} {S : yS} {lf mc : Nat → Int32} {cap : Nat → Nat} {B : Nat → Nat → Nat} {N : Nat → Nat} {h : yH} (hR : RX dA t0 S lf mc cap B N h) (u : Int32) : RX dA t0 (mset S 49 0 u) lf mc cap B N (va_up h (B 0 0) (some (.inr (9, (xK S B).set 9 (.int u))))) := by
  have e : (xK S B).set 9 (.int u) = xK (mset S 49 0 u) B := by simp [xK, mset_same, mset_ne]
  rw [e]
  have q := RX_row hR (k := 0) (i := 0) (r := 49) (j := 0) (u := u) rfl (by decide) (by decide) (fun i' v' ne => absurd v' ne)
  simpa only [xC] using q
theorem ru0_11 {dA : Nat → ClassId} {t0 : Nat} {S : yS} {lf mc : Nat → Int32} {cap : Nat → Nat} {B : Nat → Nat → Nat} {N : Nat → Nat} {h : yH} (hR : RX dA t0 S lf mc cap B N h) (u : Int32) : RX dA t0 (mset S 35 0 u) lf mc cap B N (va_up h (B 0 0) (some (.inr (9, (xK S B).set 11 (.int u))))) := by
  have e : (xK S B).set 11 (.int u) = xK (mset S 35 0 u) B := by simp [xK, mset_same, mset_ne]
  rw [e]
  have q := RX_row hR (k := 0) (i := 0) (r := 35) (j := 0) (u := u) rfl (by decide) (by decide) (fun i' v' ne => absurd v' ne)
  simpa only [xC] using q
theorem ru0_12 {dA : Nat → ClassId} {t0 : Nat} {S : yS} {lf mc : Nat → Int32} {cap : Nat → Nat} {B : Nat → Nat → Nat} {N : Nat → Nat} {h : yH} (hR : RX dA t0 S lf mc cap B N h) (u : Int32) : RX dA t0 (mset S 36 0 u) lf mc cap B N (va_up h (B 0 0) (some (.inr (9, (xK S B).set 12 (.int u))))) := by
  have e : (xK S B).set 12 (.int u) = xK (mset S 36 0 u) B := by simp [xK, mset_same, mset_ne]
  rw [e]
  have q := RX_row hR (k := 0) (i := 0) (r := 36) (j := 0) (u := u) rfl (by decide) (by decide) (fun i' v' ne => absurd v' ne)
  simpa only [xC] using q
theorem ru0_13 {dA : Nat → ClassId} {t0 : Nat} {S : yS} {lf mc : Nat → Int32} {cap : Nat → Nat} {B : Nat → Nat → Nat} {N : Nat → Nat} {h : yH} (hR : RX dA t0 S lf mc cap B N h) (u : Int32) : RX dA t0 (mset S 37 0 u) lf mc cap B N (va_up h (B 0 0) (some (.inr (9, (xK S B).set 13 (.int u))))) := by
  have e : (xK S B).set 13 (.int u) = xK (mset S 37 0 u) B := by simp [xK, mset_same, mset_ne]
  rw [e]
  have q := RX_row hR (k := 0) (i := 0) (r := 37) (j := 0) (u := u) rfl (by decide) (by decide) (fun i' v' ne => absurd v' ne)
  simpa only [xC] using q
theorem ru0_15 {dA : Nat → ClassId} {t0 : Nat} {S : yS} {lf mc : Nat → Int32} {cap : Nat → Nat} {B : Nat → Nat → Nat} {N : Nat → Nat} {h : yH} (hR : RX dA t0 S lf mc cap B N h) (u : Int32) : RX dA t0 (mset S 38 0 u) lf mc cap B N (va_up h (B 0 0) (some (.inr (9, (xK S B).set 15 (.int u))))) := by
  have e : (xK S B).set 15 (.int u) = xK (mset S 38 0 u) B := by simp [xK, mset_same, mset_ne]
  rw [e]
  have q := RX_row hR (k := 0) (i := 0) (r := 38) (j := 0) (u := u) rfl (by decide) (by decide) (fun i' v' ne => absurd v' ne)
  simpa only [xC] using q
theorem ru0_10 {dA : Nat → ClassId} {t0 : Nat} {S : yS} {lf mc : Nat → Int32} {cap : Nat → Nat} {B : Nat → Nat → Nat} {N : Nat → Nat} {h : yH} (hR : RX dA t0 S lf mc cap B N h) (u : Int32) (v : Value) (hv : v = va_rf (xr (B 6) u)) : RX dA t0 (mset S 34 0 u) lf mc cap B N (va_up h (B 0 0) (some (.inr (9, (xK S B).set 10 v)))) := by
  subst hv
  have e : (xK S B).set 10 (va_rf (xr (B 6) u)) = xK (mset S 34 0 u) B := by simp [xK, mset_same, mset_ne]
  rw [e]
  have q := RX_row hR (k := 0) (i := 0) (r := 34) (j := 0) (u := u) rfl (by decide) (by decide) (fun i' v' ne => absurd v' ne)
  simpa only [xC] using q
theorem ru0_14 {dA : Nat → ClassId} {t0 : Nat} {S : yS} {lf mc : Nat → Int32} {cap : Nat → Nat} {B : Nat → Nat → Nat} {N : Nat → Nat} {h : yH} (hR : RX dA t0 S lf mc cap B N h) (u : Int32) (v : Value) (hv : v = va_rf (xr (B 6) u)) : RX dA t0 (mset S 39 0 u) lf mc cap B N (va_up h (B 0 0) (some (.inr (9, (xK S B).set 14 v)))) := by
  subst hv
  have e : (xK S B).set 14 (va_rf (xr (B 6) u)) = xK (mset S 39 0 u) B := by simp [xK, mset_same, mset_ne]
  rw [e]
  have q := RX_row hR (k := 0) (i := 0) (r := 39) (j := 0) (u := u) rfl (by decide) (by decide) (fun i' v' ne => absurd v' ne)
  simpa only [xC] using q
theorem ru13_1 {dA : Nat → ClassId} {t0 : Nat} {S : yS} {lf mc : Nat → Int32} {cap : Nat → Nat} {B : Nat → Nat → Nat} {N : Nat → Nat} {h : yH} (hR : RX dA t0 S lf mc cap B N h) (u : Int32) : RX dA t0 (mset S 47 0 u) lf mc cap B N (va_up h (B 13 0) (some (.inr (4, ([.ref (B 14 0), .int (S 47 0), .int (S 48 0)] : List Value).set 1 (.int u))))) := by
  have q := RX_row hR (k := 13) (i := 0) (r := 47) (j := 0) (u := u) rfl (by decide) (by decide) (fun i' v' ne => absurd v' ne)
  simpa [xC, mset_same, mset_ne] using q
theorem ru13_2 {dA : Nat → ClassId} {t0 : Nat} {S : yS} {lf mc : Nat → Int32} {cap : Nat → Nat} {B : Nat → Nat → Nat} {N : Nat → Nat} {h : yH} (hR : RX dA t0 S lf mc cap B N h) (u : Int32) : RX dA t0 (mset S 48 0 u) lf mc cap B N (va_up h (B 13 0) (some (.inr (4, ([.ref (B 14 0), .int (S 47 0), .int (S 48 0)] : List Value).set 2 (.int u))))) := by
  have q := RX_row hR (k := 13) (i := 0) (r := 48) (j := 0) (u := u) rfl (by decide) (by decide) (fun i' v' ne => absurd v' ne)
  simpa [xC, mset_same, mset_ne] using q
theorem ru15_0 {dA : Nat → ClassId} {t0 : Nat} {S : yS} {lf mc : Nat → Int32} {cap : Nat → Nat} {B : Nat → Nat → Nat} {N : Nat → Nat} {h : yH} (hR : RX dA t0 S lf mc cap B N h) (u : Int32) : RX dA t0 (mset S 45 0 u) lf mc cap B N (va_up h (B 15 0) (some (.inr (3, ([.int (S 45 0), .int (S 41 0), .int (S 42 0), .int (S 44 0), .int (S 40 0)] : List Value).set 0 (.int u))))) := by
  have q := RX_row hR (k := 15) (i := 0) (r := 45) (j := 0) (u := u) rfl (by decide) (by decide) (fun i' v' ne => absurd v' ne)
  simpa [xC, mset_same, mset_ne] using q
theorem ru15_1 {dA : Nat → ClassId} {t0 : Nat} {S : yS} {lf mc : Nat → Int32} {cap : Nat → Nat} {B : Nat → Nat → Nat} {N : Nat → Nat} {h : yH} (hR : RX dA t0 S lf mc cap B N h) (u : Int32) : RX dA t0 (mset S 41 0 u) lf mc cap B N (va_up h (B 15 0) (some (.inr (3, ([.int (S 45 0), .int (S 41 0), .int (S 42 0), .int (S 44 0), .int (S 40 0)] : List Value).set 1 (.int u))))) := by
  have q := RX_row hR (k := 15) (i := 0) (r := 41) (j := 0) (u := u) rfl (by decide) (by decide) (fun i' v' ne => absurd v' ne)
  simpa [xC, mset_same, mset_ne] using q
theorem ru15_2 {dA : Nat → ClassId} {t0 : Nat} {S : yS} {lf mc : Nat → Int32} {cap : Nat → Nat} {B : Nat → Nat → Nat} {N : Nat → Nat} {h : yH} (hR : RX dA t0 S lf mc cap B N h) (u : Int32) : RX dA t0 (mset S 42 0 u) lf mc cap B N (va_up h (B 15 0) (some (.inr (3, ([.int (S 45 0), .int (S 41 0), .int (S 42 0), .int (S 44 0), .int (S 40 0)] : List Value).set 2 (.int u))))) := by
  have q := RX_row hR (k := 15) (i := 0) (r := 42) (j := 0) (u := u) rfl (by decide) (by decide) (fun i' v' ne => absurd v' ne)
  simpa [xC, mset_same, mset_ne] using q
theorem ru15_3 {dA : Nat → ClassId} {t0 : Nat} {S : yS} {lf mc : Nat → Int32} {cap : Nat → Nat} {B : Nat → Nat → Nat} {N : Nat → Nat} {h : yH} (hR : RX dA t0 S lf mc cap B N h) (u : Int32) : RX dA t0 (mset S 44 0 u) lf mc cap B N (va_up h (B 15 0) (some (.inr (3, ([.int (S 45 0), .int (S 41 0), .int (S 42 0), .int (S 44 0), .int (S 40 0)] : List Value).set 3 (.int u))))) := by
  have q := RX_row hR (k := 15) (i := 0) (r := 44) (j := 0) (u := u) rfl (by decide) (by decide) (fun i' v' ne => absurd v' ne)
  simpa [xC, mset_same, mset_ne] using q
theorem ru15_4 {dA : Nat → ClassId} {t0 : Nat} {S : yS} {lf mc : Nat → Int32} {cap : Nat → Nat} {B : Nat → Nat → Nat} {N : Nat → Nat} {h : yH} (hR : RX dA t0 S lf mc cap B N h) (u : Int32) : RX dA t0 (mset S 40 0 u) lf mc cap B N (va_up h (B 15 0) (some (.inr (3, ([.int (S 45 0), .int (S 41 0), .int (S 42 0), .int (S 44 0), .int (S 40 0)] : List Value).set 4 (.int u))))) := by
  have q := RX_row hR (k := 15) (i := 0) (r := 40) (j := 0) (u := u) rfl (by decide) (by decide) (fun i' v' ne => absurd v' ne)
  simpa [xC, mset_same, mset_ne] using q
theorem ru16_0 {dA : Nat → ClassId} {t0 : Nat} {S : yS} {lf mc : Nat → Int32} {cap : Nat → Nat} {B : Nat → Nat → Nat} {N : Nat → Nat} {h : yH} (hR : RX dA t0 S lf mc cap B N h) (u : Int32) : RX dA t0 (mset S 50 0 u) lf mc cap B N (va_up h (B 16 0) (some (.inr (1, ([.int (S 50 0)] : List Value).set 0 (.int u))))) := by
  have q := RX_row hR (k := 16) (i := 0) (r := 50) (j := 0) (u := u) rfl (by decide) (by decide) (fun i' v' ne => absurd v' ne)
  simpa [xC, mset_same, mset_ne] using q
theorem ru12_3 {dA : Nat → ClassId} {t0 : Nat} {S : yS} {lf mc : Nat → Int32} {cap : Nat → Nat} {B : Nat → Nat → Nat} {N : Nat → Nat} {h : yH} (hR : RX dA t0 S lf mc cap B N h) {k : Nat} (hk : k < N 4) (u : Int32) : RX dA t0 (mset S 33 k u) lf mc cap B N (va_up h (B 12 k) (some (.inr (6, [.ref (B 8 (ix (S 30 k))), .ref (B 8 (ix (S 31 k))), .int (S 32 k), .int u])))) := by
  have q := RX_row hR (k := 12) (i := k) (r := 33) (j := k) (u := u) hk (by decide) (by decide) (fun i' _ ne => by simp only [xC, mset_oth S u _ ne])
  simpa [xC, mset_same, mset_ne] using q
theorem ru14 {dA : Nat → ClassId} {t0 : Nat} {S : yS} {lf mc : Nat → Int32} {cap : Nat → Nat} {B : Nat → Nat → Nat} {N : Nat → Nat} {h : yH} (hR : RX dA t0 S lf mc cap B N h) {j : Nat} (hj : j < 5) (u : Int32) : RX dA t0 (mset S 46 j u) lf mc cap B N (va_up h (B 14 0) (some (.inl (dA 0, 5, .inl (upd (fun i => if i < 5 then S 46 i else 0) j u))))) := by
  have e : upd (fun i => if i < 5 then S 46 i else 0) j u = fun i => if i < 5 then mset S 46 j u 46 i else 0 := by
    funext i
    rw [mset_at]
    by_cases z : i = j
    · subst z
      simp [upd, hj]
    · simp [upd, z]
  rw [e]
  have q := RX_row hR (k := 14) (i := 0) (r := 46) (j := j) (u := u) rfl (by decide) (by decide) (fun i' v' ne => absurd v' ne)
  simpa only [xC] using q
theorem ru5 {dA : Nat → ClassId} {t0 : Nat} {S : yS} {lf mc : Nat → Int32} {cap : Nat → Nat} {B : Nat → Nat → Nat} {N : Nat → Nat} {h : yH} (hR : RX dA t0 S lf mc cap B N h) {p j : Nat} (hp : p < N 0) (hp8 : N 0 ≤ 8) (hj : j < 61) (u : Int32) : RX dA t0 (mset S 51 (8 * j + p) u) lf mc cap B N (va_up h (B 5 p) (some (.inl (dA 0, 61, .inl (upd (fun i => if i < 61 then S 51 (8 * i + p) else 0) j u))))) := by
  have e : upd (fun i => if i < 61 then S 51 (8 * i + p) else 0) j u = fun i => if i < 61 then mset S 51 (8 * j + p) u 51 (8 * i + p) else 0 := by
    funext i
    rw [mset_at]
    by_cases z : i = j
    · subst z
      simp [upd, hj]
    · have z2 : ¬ 8 * i + p = 8 * j + p := by omega
      simp only [upd, if_neg z, if_neg z2]
  rw [e]
  have q := RX_row hR (k := 5) (i := p) (r := 51) (j := 8 * j + p) (u := u) hp (by decide) (by decide) (fun i' v' ne => by
    have hv : i' < N 0 := v'
    simp only [xC, mset_at]
    congr 4
    funext i
    have z2 : ¬ 8 * i + i' = 8 * j + p := by omega
    simp [z2])
  simpa only [xC] using q
theorem ru4 {dA : Nat → ClassId} {t0 : Nat} {S : yS} {lf mc : Nat → Int32} {cap : Nat → Nat} {B : Nat → Nat → Nat} {N : Nat → Nat} {h : yH} (hR : RX dA t0 S lf mc cap B N h) {p j : Nat} (hp : p < N 0) (hj : j < 8) (c : Int32) (hc : 0 < c + 1) : RX dA t0 (mset S 16 (8 * p + j) (c + 1)) lf mc cap B N (va_up h (B 4 p) (some (.inl (dA 0, 8, .inl (upd (fun q => if q < 8 then (if 0 < S 16 (8 * p + q) then S 16 (8 * p + q) - 1 else -5) else 0) j c))))) := by
  have e : upd (fun q => if q < 8 then (if 0 < S 16 (8 * p + q) then S 16 (8 * p + q) - 1 else -5) else 0) j c = fun q => if q < 8 then (if 0 < mset S 16 (8 * p + j) (c + 1) 16 (8 * p + q) then mset S 16 (8 * p + j) (c + 1) 16 (8 * p + q) - 1 else -5) else 0 := by
    funext i
    rw [mset_at]
    by_cases z : i = j
    · subst z
      simp [upd, hj, hc]
    · have z2 : ¬ 8 * p + i = 8 * p + j := by omega
      simp [upd, z, z2]
  rw [e]
  have q := RX_row hR (k := 4) (i := p) (r := 16) (j := 8 * p + j) (u := c + 1) hp (by decide) (by decide) (fun i' v' ne => by
    simp only [xC, mset_at]
    congr 4
    funext i
    by_cases z : i < 8
    · have z2 : ¬ 8 * i' + i = 8 * p + j := by omega
      simp [z2]
    · simp [z])
  simpa only [xC] using q
section XL
variable {D : va_G} {dA : Nat → ClassId} {t0 mi : Nat} {S : yS} {lf mc : Nat → Int32} {cap : Nat → Nat} {B : Nat → Nat → Nat} {N : Nat → Nat}
theorem jl_size {i : Nat} (hi : i < 5) (h : yH) (hR : RX dA t0 S lf mc cap B N h) : yM (yZ t0 mi D dA) D yJx4a65c_size_8abf5 cJx4a65c_size_8abf5 1 (some .int) 0 0 0 [.ref (B 1 i)] h (fun r h' => r = some (.int (nI (N i))) ∧ h' = h) := jc_size _ _ _ _ h (rx1 hR hi)
theorem jl_get {i j : Nat} (hi : i < 5) (hj : j < N i) (h : yH) (hR : RX dA t0 S lf mc cap B N h) : yM (yZ t0 mi D dA) D yJx4a65c_get_915e3 cJx4a65c_get_915e3 2 (some (.object "java/lang/Object")) 2 0 0 [.ref (B 1 i), .int (nI j)] h (fun r h' => r = some (.ref (B (xkd i) j)) ∧ h' = h) := by
  obtain ⟨c1, c2⟩ := hR.2.2 i hi
  have hc : 0 < cap i := by
    rcases Nat.eq_zero_or_pos (cap i) with z | z
    · have := (c2 z).2
      omega
    · exact z
  have q := jc_get (D := D) (dA := dA) (t0 := t0) (mi := mi) (B 1 i) (B 2 i) j (N i) (cap i) (mc i) _ hj (c1 hc).1 (by have := (c1 hc).2; omega) h (rx1 hR hi) (rx2 hR hi hc)
  refine yM_mono q (fun r h' hq => ?_)
  rw [if_pos hj] at hq
  exact hq
end XL
