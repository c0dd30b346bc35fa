/-! orders: what the class's list and the reference's rows hold behind a second's orders -/
def m_o1L : Nat → Nat → yS → yS
  | 0, _, X => X
  | j + 1, i, X => if X 28 i = X 0 0 then m_o1L j (i + 1) (m_ord1 X i) else m_o1L j (i + 1) X
def kN (D : Nat → Bool) : Nat → Nat → Nat
  | 0, _ => 0
  | j + 1, i => if D i = true then kN D j (i + 1) else kN D j (i + 1) + 1
def kG (D : Nat → Bool) : Nat → Nat → Nat → Nat
  | 0, i, k => i + k
  | j + 1, i, k => if D i = true then kG D j (i + 1) k else if k = 0 then i else kG D j (i + 1) (k - 1)
def gF (D : Nat → Bool) (m j : Nat) : Nat → Nat := fun k => if k < j then k else kG D m j (k - j)
theorem kG_ge (D : Nat → Bool) : ∀ (j i k : Nat), i ≤ kG D j i k
  | 0, i, k => by
    show i ≤ i + k
    omega
  | j + 1, i, k => by
    unfold kG
    repeat' split
    · have := kG_ge D j (i + 1) k
      omega
    · exact Nat.le_refl i
    · have := kG_ge D j (i + 1) (k - 1)
      omega
theorem kN_le (D : Nat → Bool) : ∀ (j i : Nat), kN D j i ≤ j
  | 0, _ => Nat.le_refl 0
  | j + 1, i => by
    unfold kN
    have := kN_le D j (i + 1)
    split <;> omega
theorem gF_due {D : Nat → Bool} {m j : Nat} (h : D j = true) : (fun k => gF D m (j + 1) (skip j k)) = gF D (m + 1) j := by
  funext k
  unfold gF skip
  by_cases c : k < j
  · rw [if_pos c, if_pos c, if_pos (by omega)]
  · rw [if_neg c, if_neg c, if_neg (by omega)]
    show _ = kG D (m + 1) j (k - j)
    unfold kG
    rw [if_pos h, show k + 1 - (j + 1) = k - j by omega]
    cases m <;> rfl
theorem gF_not {D : Nat → Bool} {m j : Nat} (h : ¬ D j = true) : gF D m (j + 1) = gF D (m + 1) j := by
  funext k
  unfold gF
  by_cases c : k < j
  · rw [if_pos c, if_pos (by omega)]
  · rw [if_neg c]
    have e : kG D (m + 1) j (k - j) = if k - j = 0 then j else kG D m (j + 1) (k - j - 1) := by
      show (if D j = true then kG D m (j + 1) (k - j) else if k - j = 0 then j else kG D m (j + 1) (k - j - 1)) = _
      rw [if_neg h]
    rw [e]
    by_cases d : k < j + 1
    · rw [if_pos d, if_pos (by omega)]
      omega
    · rw [if_neg d, if_neg (by omega), show k - (j + 1) = k - j - 1 by omega]
theorem gF_id (D : Nat → Bool) (n : Nat) : gF D 0 n = fun k => k := by
  funext k
  unfold gF
  split
  · rfl
  · show n + (k - n) = k
    omega
theorem gF_lt {D : Nat → Bool} {m j k : Nat} (h : k < j) : gF D m j k = k := if_pos h
theorem o1L_hi : ∀ (j i : Nat) (X : yS) {q : Nat}, (14 ≤ q ∨ q = 0) → m_o1L j i X q = X q
  | 0, _, _, _, _ => rfl
  | j + 1, i, X, q, h => by
    unfold m_o1L
    split
    · rw [o1L_hi j (i + 1) _ h]
      unfold m_ord1
      rw [mset_ne _ _ (by omega), mset_ne _ _ (by omega), mset_ne _ _ (by omega)]
    · exact o1L_hi j (i + 1) _ h
theorem ordL_o1 : ∀ (j i n : Nat) (Y X : yS), n ≤ i → (∀ r, 24 ≤ r → r ≤ 28 → ∀ k, i ≤ k → Y r k = X r k) → (∀ r, r ≠ 23 → ¬ (24 ≤ r ∧ r ≤ 28) → Y r = X r) → ∀ r, r ≠ 23 → ¬ (24 ≤ r ∧ r ≤ 28) → m_ordL j i n Y r = m_o1L j i X r
  | 0, i, n, Y, X, _, _, h2, r, h3, h4 => by
    show mset Y 23 0 (nI n) r = X r
    rw [mset_ne _ _ h3]
    exact h2 r h3 h4
  | j + 1, i, n, Y, X, hn, h1, h2, r, h3, h4 => by
    unfold m_ordL m_o1L
    rw [h1 28 (by decide) (by decide) i (Nat.le_refl i), h2 0 (by decide) (by decide)]
    split
    · refine ordL_o1 j (i + 1) n _ _ (by omega) (fun r a b k hk => ?_) (fun r a b => ?_) r h3 h4
      · rw [m_ord1_at Y i (by omega), m_ord1_at X i (by omega)]
        exact h1 r a b k (by omega)
      · unfold m_ord1
        rw [h1 24 (by decide) (by decide) i (Nat.le_refl i), h1 25 (by decide) (by decide) i (Nat.le_refl i), h1 26 (by decide) (by decide) i (Nat.le_refl i), h1 27 (by decide) (by decide) i (Nat.le_refl i)]
        funext q
        by_cases c1 : r = 13
        · subst c1
          simp only [mset_at]
          rw [mset_ne _ _ (by decide), mset_ne _ _ (by decide), mset_ne _ _ (by decide), mset_ne _ _ (by decide), h2 13 (by decide) (by decide)]
        · rw [mset_ne _ _ c1, mset_ne _ _ c1]
          by_cases c2 : r = 12
          · subst c2
            simp only [mset_at]
            rw [mset_ne _ _ (by decide), mset_ne _ _ (by decide), h2 12 (by decide) (by decide)]
          · rw [mset_ne _ _ c2, mset_ne _ _ c2]
            by_cases c3 : r = 11
            · subst c3
              simp only [mset_at]
              rw [h2 11 (by decide) (by decide)]
            · rw [mset_ne _ _ c3, mset_ne _ _ c3, h2 r a b]
    · refine ordL_o1 j (i + 1) (n + 1) _ _ (by omega) (fun r a b k hk => ?_) (fun r a b => ?_) r h3 h4
      · rw [ord2_at Y n i a b, if_neg (by omega)]
        exact h1 r a b k (by omega)
      · rw [ord2_ne Y n i b]
        exact h2 r a b
theorem ordL_sel {D : Nat → Bool} : ∀ (j i n : Nat) (Y : yS), n ≤ i → (∀ k, i ≤ k → k < i + j → (D k = true ↔ Y 28 k = Y 0 0)) → m_ordL j i n Y 23 0 = nI (n + kN D j i) ∧ ∀ r, 24 ≤ r → r ≤ 28 → ∀ k, (k < n → m_ordL j i n Y r k = Y r k) ∧ (k < kN D j i → m_ordL j i n Y r (n + k) = Y r (kG D j i k))
  | 0, i, n, Y, _, _ => by
    refine ⟨mset_same _ _ _ _, fun r h1 h2 k => ⟨fun _ => ?_, fun z => absurd z (Nat.not_lt_zero k)⟩⟩
    show mset Y 23 0 (nI n) r k = Y r k
    rw [mset_ne _ _ (by omega)]
  | j + 1, i, n, Y, hn, hD => by
    by_cases c : Y 28 i = Y 0 0
    · have d : D i = true := (hD i (Nat.le_refl i) (by omega)).mpr c
      have e : m_ordL (j + 1) i n Y = m_ordL j (i + 1) n (m_ord1 Y i) := by
        show (if Y 28 i = Y 0 0 then _ else _) = _
        rw [if_pos c]
      have e0 : m_ord1 Y i 0 = Y 0 := by
        unfold m_ord1
        rw [mset_ne _ _ (by decide), mset_ne _ _ (by decide), mset_ne _ _ (by decide)]
      obtain ⟨a, b⟩ := ordL_sel (D := D) j (i + 1) n (m_ord1 Y i) (by omega) (fun k h1 h2 => by rw [m_ord1_at Y i (by decide), e0]; exact hD k (by omega) (by omega))
      have eN : kN D (j + 1) i = kN D j (i + 1) := if_pos d
      have eG : ∀ k, kG D (j + 1) i k = kG D j (i + 1) k := fun k => if_pos d
      rw [e, eN]
      refine ⟨a, fun r h1 h2 k => ?_⟩
      rw [eG]
      have q := b r h1 h2 k
      rw [m_ord1_at Y i (by omega)] at q
      exact q
    · have d : ¬ D i = true := fun z => c ((hD i (Nat.le_refl i) (by omega)).mp z)
      have e : m_ordL (j + 1) i n Y = m_ordL j (i + 1) (n + 1) (m_ord2 Y n i) := by
        show (if Y 28 i = Y 0 0 then _ else _) = _
        rw [if_neg c]
      obtain ⟨a, b⟩ := ordL_sel (D := D) j (i + 1) (n + 1) (m_ord2 Y n i) (by omega) (fun k h1 h2 => by rw [ord2_at Y n i (by decide) (by decide), if_neg (by omega), ord2_ne Y n i (by decide)]; exact hD k (by omega) (by omega))
      have eN : kN D (j + 1) i = kN D j (i + 1) + 1 := if_neg d
      have eG : ∀ k, kG D (j + 1) i k = if k = 0 then i else kG D j (i + 1) (k - 1) := fun k => if_neg d
      rw [e, eN, show n + (kN D j (i + 1) + 1) = n + 1 + kN D j (i + 1) by omega]
      refine ⟨a, fun r h1 h2 k => ⟨fun hk => ?_, fun hk => ?_⟩⟩
      · rw [(b r h1 h2 k).1 (by omega), ord2_at Y n i h1 h2, if_neg (by omega)]
      · rw [eG]
        by_cases z : k = 0
        · rw [if_pos z, z, show n + 0 = n from rfl, (b r h1 h2 n).1 (by omega), ord2_at Y n i h1 h2, if_pos rfl]
        · rw [if_neg z, show n + k = n + 1 + (k - 1) by omega, (b r h1 h2 (k - 1)).2 (by omega), ord2_at Y n i h1 h2, if_neg]
          have := kG_ge D j (i + 1) (k - 1)
          omega
theorem pS_pS (g f : Nat → Nat) (S : yS) : pS f (pS g S) = pS (fun k => g (f k)) S := by
  funext r k
  unfold pS
  by_cases c : 24 ≤ r ∧ r ≤ 28
  · rw [if_pos c, if_pos c, if_pos c]
  · rw [if_neg c, if_neg c, if_neg c]
theorem pB_pB (g f : Nat → Nat) (B : Nat → Nat → Nat) : pB f (pB g B) = pB (fun k => g (f k)) B := by
  funext r k
  unfold pB
  by_cases c : r = 11
  · rw [if_pos c, if_pos rfl, if_pos c]
  · rw [if_neg c, if_neg c, if_neg c]
theorem pS_id (S : yS) : pS (fun k => k) S = S := by
  funext r k
  unfold pS
  split <;> rfl
theorem pB_id (B : Nat → Nat → Nat) : pB (fun k => k) B = B := by
  funext r k
  unfold pB
  split
  · rename_i c
    rw [c]
  · rfl
theorem up_up3 (N : Nat → Nat) (a b : Nat) : va_up (va_up N 3 a) 3 b = va_up N 3 b := by
  funext k
  unfold va_up
  split <;> rfl
theorem up_self3 (N : Nat → Nat) : va_up N 3 (N 3) = N := by
  funext k
  unfold va_up
  split
  · rename_i c
    rw [c]
  · rfl
theorem RX_ord {dA : Nat → ClassId} {t0 : Nat} {S S' : yS} {lf mc : Nat → Int32} {cap : Nat → Nat} {B : Nat → Nat → Nat} {N : Nat → Nat} {h : yH} (hR : RX dA t0 S lf mc cap B N h) (h1 : ∀ r, 24 ≤ r → r ≤ 28 → ∀ k, k < N 3 → S' r k = S r k) (h2 : ∀ r, r ≠ 23 → ¬ (24 ≤ r ∧ r ≤ 28) → S' r = S r) : RX dA t0 S' lf mc cap B N h := by
  have q : ∀ k, k < 17 → k ≠ 11 → ∀ r, (xRows k).contains r = true → S' r = S r := by
    intro k hk hk2 r hr
    have : ∀ k, k < 17 → k ≠ 11 → ∀ r, r ∈ xRows k → r ≠ 23 ∧ ¬ (24 ≤ r ∧ r ≤ 28) := by decide
    have z := this k hk hk2 r (by simpa using hr)
    exact h2 r z.1 z.2
  have v : ∀ k i, xV S' cap N k i ↔ xV S cap N k i := fun k i => xV_eq (h2 20 (by decide) (by decide)) k i
  refine ⟨fun k i hv => ?_, fun k i k' i' h1 h2 he => hR.2.1 k i k' i' ((v _ _).mp h1) ((v _ _).mp h2) he, hR.2.2⟩
  have hv' := (v k i).mp hv
  by_cases c : k = 11
  · subst c
    have hi : i < N 3 := hv
    rw [hR.1 11 i hv']
    simp only [xC, h1 24 (by decide) (by decide) i hi, h1 25 (by decide) (by decide) i hi, h1 26 (by decide) (by decide) i hi, h1 27 (by decide) (by decide) i hi, h1 28 (by decide) (by decide) i hi]
  · rw [xC_rows (xV_lt hv') (q k (xV_lt hv') c)]
    exact hR.1 k i hv'
section X16
variable {D : va_G} {dA : Nat → ClassId} {t0 mi : Nat} {S : yS} {lf mc : Nat → Int32} {cap : Nat → Nat} {B : Nat → Nat → Nat} {N : Nat → Nat}
variable {t : Nat}
set_option maxHeartbeats 4000000 in
set_option maxRecDepth 100000 in
theorem xc_changeTable (k : Nat) (hk : k < N 3) (hp : ix (S 24 k) < N 0)  (h : yH) (hR : RX dA t0 (S) lf mc cap B N h) : yM (yZ t0 mi D dA) D yX4_changeTable cX4_changeTable 1 none 0 0 0 [.ref (B 11 k)] h (fun r h' => r = none ∧ RX dA t0 (m_ord1 S k) lf mc cap B N h') := by
  refine yM_of (yZ_ok t0 mi D dA) (by decide) rfl (Nat.le_of_ble_eq_true rfl) ?_
  intro p l e s m args below meth c A C hr hin
  show yW p l e (yR 0 0 0) s m args below meth c 1 D A 0 0 _ 0 [some (.ref (B 11 k))] [] h
  refine yr_aload_n 1 C dX4_changeTable_0 rfl rfl rfl ?_
  refine yr_get 4 C dX4_changeTable_1 fl_X4_7 (rx11 hR hk) rfl rfl ?_
  refine yr_aload_n 5 C dX4_changeTable_4 rfl rfl rfl ?_
  refine yr_get 8 C dX4_changeTable_5 fl_X4_13 (rx11 hR hk) rfl rfl ?_
  refine xx_put 11 C dX4_changeTable_8 fp_X4_26 (rx3 hR hp) (Nat.le_of_ble_eq_true rfl) rfl rfl (ru3_11 hR hp _) rfl (fun h hR => ?_)
  refine yr_aload_n 12 C dX4_changeTable_11 rfl rfl rfl ?_
  refine yr_get 15 C dX4_changeTable_12 fl_X4_7 (rx11 hR hk) rfl rfl ?_
  refine yr_aload_n 16 C dX4_changeTable_15 rfl rfl rfl ?_
  refine yr_get 19 C dX4_changeTable_16 fl_X4_17 (rx11 hR hk) rfl rfl ?_
  refine xx_put 22 C dX4_changeTable_19 fp_X4_29 (rx3 hR hp) (Nat.le_of_ble_eq_true rfl) rfl rfl (ru3_12 hR hp _) rfl (fun h hR => ?_)
  refine yr_aload_n 23 C dX4_changeTable_22 rfl rfl rfl ?_
  refine yr_get 26 C dX4_changeTable_23 fl_X4_7 (rx11 hR hk) rfl rfl ?_
  refine yr_aload_n 27 C dX4_changeTable_26 rfl rfl rfl ?_
  refine yr_get 30 C dX4_changeTable_27 fl_X4_20 (rx11 hR hk) rfl rfl ?_
  refine xx_put 33 C dX4_changeTable_30 fp_X4_30 (rx3 hR hp) (Nat.le_of_ble_eq_true rfl) rfl rfl (ru3_13 hR hp _) rfl (fun h hR => ?_)
  refine yr_vret C dX4_changeTable_33 hr (Nat.le_of_ble_eq_true rfl) (Nat.le_of_ble_eq_true rfl) ?_
  exact ⟨rfl, hR⟩
set_option maxHeartbeats 4000000 in
set_option maxRecDepth 100000 in
theorem xc_doOrders (ho : ∀ k, k < N 3 → ∃ p, p < N 0 ∧ S 24 k = nI p) (hn3 : N 3 ≤ 16) (hB : mB S (N 0) (N 1) (N 2) (N 4) t) (h : yH) (hR : RX dA t0 (S) lf mc cap B N h) : yM (yZ t0 mi D dA) D yX8_doOrders cX8_doOrders 3 none 3 0 0 [.ref (B 0 0), .int (nI t)] h (fun r h' => r = none ∧ ∃ (mc' : Nat → Int32) (B' : Nat → Nat → Nat) (n' : Nat), (∀ k, k ≠ 11 → B' k = B k) ∧ n' ≤ N 3 ∧ m_doOrders S (N 3) 23 0 = nI n' ∧ RX dA t0 (m_doOrders S (N 3)) lf mc' cap B' (va_up N 3 n') h') := by
  refine yM_of (yZ_ok t0 mi D dA) (by decide) rfl (Nat.le_of_ble_eq_true rfl) ?_
  intro p l e s m args below meth c A C hr hin
  show yW p l e (yR 3 0 0) s m args below meth c 3 D A 0 0 _ 0 [some (.ref (B 0 0)), some (.int (nI t)), none] [] h
  refine yr_iconst 1 C (0) dX8_doOrders_0 rfl rfl ?_
  refine yr_istore2 2 C dX8_doOrders_1 (by decide) rfl ?_
  have loop2 : ∀ (j i : Nat) (X : yS), i + j = N 3 → mB X (N 0) (N 1) (N 2) (N 4) t → (∀ q, (14 ≤ q ∨ q = 0) → X q = S q) → m_o1L j i X = m_o1L (N 3) 0 S → ∀ h : yH, RX dA t0 (X) lf mc cap B N h → yW p l e (yR 3 0 0) s m args below meth c 3 D A 0 0 (yF D A (fun r h' => r = none ∧ ∃ (mc' : Nat → Int32) (B' : Nat → Nat → Nat) (n' : Nat), (∀ k, k ≠ 11 → B' k = B k) ∧ n' ≤ N 3 ∧ m_doOrders S (N 3) 23 0 = nI n' ∧ RX dA t0 (m_doOrders S (N 3)) lf mc' cap B' (va_up N 3 n') h') below args s 0 0) 2 [some (.ref (B 0 0)), some (.int (nI t)), some (.int (nI i))] [] h := by
    intro j
    induction j with
    | zero =>
      intro i X hij hX hx he h hR
      have n0 : X 1 0 = nI (N 0) ∧ N 0 ≤ 8 := hX 0
      have n1 : X 17 0 = nI (N 1) ∧ N 1 ≤ 6 := hX 1
      have n4 : X 29 0 = nI (N 4) ∧ N 4 ≤ 6 := hX 2
      have k3 : X 0 0 = nI t ∧ t < 2 ^ 20 ∧ N 2 ≤ 12 := hX 3
      refine yr_iload_n 3 C dX8_doOrders_2 rfl rfl ?_
      refine yr_aload_n 4 C dX8_doOrders_3 rfl rfl rfl ?_
      refine yr_get 7 C dX8_doOrders_4 fl_X8_22 (rx0 hR) rfl rfl ?_
      refine yr_V0v 10 C (jl_size (show 3 < 5 by decide) _ hR) dX8_doOrders_7 mt_Jx4a65c_size_8abf5 mv_Jx4a65c_size_8abf5 ml_X8_75 (rx1 hR (show 3 < 5 by decide)) rfl (Nat.le_of_ble_eq_true rfl) (Nat.le_of_ble_eq_true rfl) (Nat.le_of_ble_eq_true rfl) (Nat.le_of_ble_eq_true rfl) (Nat.le_of_ble_eq_true rfl) rfl (fun h e => ?_)
      subst e
      refine yr_icmp_ge 51 13 C  dX8_doOrders_10 (by decide) rfl (fun c10 => ?_) (fun c10 => ?_)
      rotate_left
      · exact absurd (nI_le (by omega) (by omega)) c10
      refine yr_aload_n 52 C dX8_doOrders_51 rfl rfl rfl ?_
      refine yr_get 55 C dX8_doOrders_52 fl_X8_22 (rx0 hR) rfl rfl ?_
      refine yr_V0v 58 C (jl_size (show 3 < 5 by decide) _ hR) dX8_doOrders_55 mt_Jx4a65c_size_8abf5 mv_Jx4a65c_size_8abf5 ml_X8_75 (rx1 hR (show 3 < 5 by decide)) rfl (Nat.le_of_ble_eq_true rfl) (Nat.le_of_ble_eq_true rfl) (Nat.le_of_ble_eq_true rfl) (Nat.le_of_ble_eq_true rfl) (Nat.le_of_ble_eq_true rfl) rfl (fun h e => ?_)
      subst e
      refine yr_iconst 59 C (1) dX8_doOrders_58 rfl rfl ?_
      refine yr_isub 60 C dX8_doOrders_59 rfl ?_
      refine yr_istore2 61 C dX8_doOrders_60 (by decide) rfl ?_
      have loop61 : ∀ (j i : Nat) (X2 : yS) (mc2 : Nat → Int32) (B2 : Nat → Nat → Nat) (N2 : Nat → Nat), i + j = N 3 → X2 = pS (gF (fun k => decide (X 28 k = X 0 0)) i j) X → B2 = pB (gF (fun k => decide (X 28 k = X 0 0)) i j) B → N2 = va_up N 3 (j + kN (fun k => decide (X 28 k = X 0 0)) i j) → ∀ h : yH, RX dA t0 X2 lf mc2 cap B2 N2 h → yW p l e (yR 3 0 0) s m args below meth c 3 D A 0 0 (yF D A (fun r h' => r = none ∧ ∃ (mc' : Nat → Int32) (B' : Nat → Nat → Nat) (n' : Nat), (∀ k, k ≠ 11 → B' k = B k) ∧ n' ≤ N 3 ∧ m_doOrders S (N 3) 23 0 = nI n' ∧ RX dA t0 (m_doOrders S (N 3)) lf mc' cap B' (va_up N 3 n') h') below args s 0 0) 61 [some (.ref (B2 0 0)), some (.int (nI t)), some (.int (nI j - 1))] [] h := by
        intro j
        induction j with
        | zero =>
          intro i X2 mc2 B2 N2 hij2 ex eb en h hR
          refine yr_iload_n 62 C dX8_doOrders_61 rfl rfl ?_
          refine yr_if_lt 98 65 C  dX8_doOrders_62 (by decide) rfl (fun c62 => ?_) (fun c62 => ?_)
          rotate_left
          · exact absurd (show (nI 0 - 1 : Int32) < 0 by decide) c62
          refine yr_vret C dX8_doOrders_98 hr (Nat.le_of_ble_eq_true rfl) (Nat.le_of_ble_eq_true rfl) ?_
          have he2 : X = m_o1L (N 3) 0 S := he
          have x28 : X 28 = S 28 := hx 28 (by decide)
          have x0 : X 0 = S 0 := hx 0 (by decide)
          have ei : i = N 3 := by omega
          rw [ei] at ex eb en
          obtain ⟨s1, s2⟩ := ordL_sel (D := (fun k => decide (X 28 k = X 0 0))) (N 3) 0 0 S (Nat.le_refl 0) (fun k _ _ => by simp only [decide_eq_true_eq, x28, x0])
          refine ⟨rfl, mc2, B2, kN (fun k => decide (X 28 k = X 0 0)) (N 3) 0, fun k hk => by rw [eb]; exact pB_ne hk, kN_le _ _ _, by rw [Nat.zero_add] at s1; exact s1, ?_⟩
          have en2 : N2 = va_up N 3 (kN (fun k => decide (X 28 k = X 0 0)) (N 3) 0) := by rw [en, Nat.zero_add]
          rw [← en2]
          refine RX_ord hR (fun r h1 h2 k hk => ?_) (fun r h1 h2 => ?_)
          · rw [en2] at hk
            have q := (s2 r h1 h2 k).2 hk
            rw [Nat.zero_add] at q
            show m_ordL (N 3) 0 0 S r k = _
            rw [q, ex]
            unfold pS gF
            rw [if_pos ⟨h1, h2⟩, if_neg (Nat.not_lt_zero k), hx r (by omega)]
            rfl
          · rw [ex, pS_ne h2, he2]
            exact ordL_o1 (N 3) 0 0 S S (Nat.le_refl 0) (fun _ _ _ _ _ => rfl) (fun _ _ _ => rfl) r h1 h2
        | succ j ih2 =>
          intro i X2 mc2 B2 N2 hij2 ex eb en h hR
          have e28 : X2 28 j = X 28 j := by rw [ex]; simp [pS, gF_lt]
          have hj2 : j < N2 3 := by rw [en]; show j < j + 1 + _; omega
          rw [nI_pred]
          refine yr_iload_n 62 C dX8_doOrders_61 rfl rfl ?_
          refine yr_if_lt 98 65 C  dX8_doOrders_62 (by decide) rfl (fun c62 => ?_) (fun c62 => ?_)
          · exact absurd c62 (nI_pos (by omega))
          refine yr_aload_n 66 C dX8_doOrders_65 rfl rfl rfl ?_
          refine yr_get 69 C dX8_doOrders_66 fl_X8_22 (rx0 hR) rfl rfl ?_
          refine yr_iload_n 70 C dX8_doOrders_69 rfl rfl ?_
          refine yr_V1v 73 C (jl_get (show 3 < 5 by decide) (j := j) hj2 _ hR) dX8_doOrders_70 mt_Jx4a65c_get_915e3 mv_Jx4a65c_get_915e3 ml_X8_99 (rx1 hR (show 3 < 5 by decide)) rfl (Nat.le_of_ble_eq_true rfl) (Nat.le_of_ble_eq_true rfl) (Nat.le_of_ble_eq_true rfl) (Nat.le_of_ble_eq_true rfl) (Nat.le_of_ble_eq_true rfl) rfl (fun h e => ?_)
          subst e
          rw [show xkd 3 = 11 from rfl]
          refine yr_cast 76 C dX8_doOrders_73 (rx11 hR hj2) rfl cl_X8_152 rfl ?_
          refine yr_get 79 C dX8_doOrders_76 fl_X8_278 (rx11 hR hj2) rfl rfl ?_
          refine yr_iload_n 80 C dX8_doOrders_79 rfl rfl ?_
          refine yr_icmp_ne 92 83 C  dX8_doOrders_80 (by decide) rfl (fun c80 => ?_) (fun c80 => ?_)
          · refine yr_iinc2 95 C (-1) dX8_doOrders_92 rfl (by decide) rfl ?_
            rw [← Int32.sub_eq_add_neg]
            refine yr_goto 61 C dX8_doOrders_95 (by decide) ?_
            have hd : ¬ (fun k => decide (X 28 k = X 0 0)) j = true := by simpa [← e28, k3.1] using c80
            exact ih2 (i + 1) X2 mc2 B2 N2 (by omega) (by rw [ex, gF_not hd]) (by rw [eb, gF_not hd]) (by rw [en, show kN (fun k => decide (X 28 k = X 0 0)) (i + 1) j = kN (fun k => decide (X 28 k = X 0 0)) i (j + 1) + 1 from if_neg hd]; congr 1; omega) h hR
          · refine yr_aload_n 84 C dX8_doOrders_83 rfl rfl rfl ?_
            refine yr_get 87 C dX8_doOrders_84 fl_X8_22 (rx0 hR) rfl rfl ?_
            refine yr_iload_n 88 C dX8_doOrders_87 rfl rfl ?_
            refine yr_V1v 91 C (jl_remove hj2 _ hR) dX8_doOrders_88 mt_Jx4a65c_remove_915e3 mv_Jx4a65c_remove_915e3 ml_X8_284 (rx1 hR (show 3 < 5 by decide)) rfl (Nat.le_of_ble_eq_true rfl) (Nat.le_of_ble_eq_true rfl) (Nat.le_of_ble_eq_true rfl) (Nat.le_of_ble_eq_true rfl) (Nat.le_of_ble_eq_true rfl) rfl (fun h hR => ?_)
            refine yr_pop 92 C dX8_doOrders_91 rfl rfl ?_
            refine yr_iinc2 95 C (-1) dX8_doOrders_92 rfl (by decide) rfl ?_
            rw [← Int32.sub_eq_add_neg]
            refine yr_goto 61 C dX8_doOrders_95 (by decide) ?_
            have hd : (fun k => decide (X 28 k = X 0 0)) j = true := by simpa [← e28, k3.1] using c80
            exact ih2 (i + 1) _ _ (pB (skip j) B2) _ (by omega) (by rw [ex, pS_pS, gF_due hd]) (by rw [eb, pB_pB, gF_due hd]) (by rw [en, show kN (fun k => decide (X 28 k = X 0 0)) (i + 1) j = kN (fun k => decide (X 28 k = X 0 0)) i (j + 1) from if_pos hd, up_up3]; congr 1; show j + 1 + _ - 1 = _; omega) h hR
      exact loop61 (N 3) 0 X mc B N (by omega) (by rw [gF_id, pS_id]) (by rw [gF_id, pB_id]) (by rw [show N 3 + kN _ 0 (N 3) = N 3 from rfl, up_self3]) h hR
    | succ j ih =>
      intro i X hij hX hx he h hR
      have n0 : X 1 0 = nI (N 0) ∧ N 0 ≤ 8 := hX 0
      have n1 : X 17 0 = nI (N 1) ∧ N 1 ≤ 6 := hX 1
      have n4 : X 29 0 = nI (N 4) ∧ N 4 ≤ 6 := hX 2
      have k3 : X 0 0 = nI t ∧ t < 2 ^ 20 ∧ N 2 ≤ 12 := hX 3
      have hp : ix (X 24 i) < N 0 := by
        obtain ⟨z, hz, ez⟩ := ho i (by omega)
        rw [hx 24 (by decide), ez, ix_nI (by omega)]
        exact hz
      refine yr_iload_n 3 C dX8_doOrders_2 rfl rfl ?_
      refine yr_aload_n 4 C dX8_doOrders_3 rfl rfl rfl ?_
      refine yr_get 7 C dX8_doOrders_4 fl_X8_22 (rx0 hR) rfl rfl ?_
      refine yr_V0v 10 C (jl_size (show 3 < 5 by decide) _ hR) dX8_doOrders_7 mt_Jx4a65c_size_8abf5 mv_Jx4a65c_size_8abf5 ml_X8_75 (rx1 hR (show 3 < 5 by decide)) rfl (Nat.le_of_ble_eq_true rfl) (Nat.le_of_ble_eq_true rfl) (Nat.le_of_ble_eq_true rfl) (Nat.le_of_ble_eq_true rfl) (Nat.le_of_ble_eq_true rfl) rfl (fun h e => ?_)
      subst e
      refine yr_icmp_ge 51 13 C  dX8_doOrders_10 (by decide) rfl (fun c10 => ?_) (fun c10 => ?_)
      · exact absurd c10 (nI_ge (by omega) (by omega))
      refine yr_aload_n 14 C dX8_doOrders_13 rfl rfl rfl ?_
      refine yr_get 17 C dX8_doOrders_14 fl_X8_22 (rx0 hR) rfl rfl ?_
      refine yr_iload_n 18 C dX8_doOrders_17 rfl rfl ?_
      refine yr_V1v 21 C (jl_get (show 3 < 5 by decide) (j := i) (by omega) _ hR) dX8_doOrders_18 mt_Jx4a65c_get_915e3 mv_Jx4a65c_get_915e3 ml_X8_99 (rx1 hR (show 3 < 5 by decide)) rfl (Nat.le_of_ble_eq_true rfl) (Nat.le_of_ble_eq_true rfl) (Nat.le_of_ble_eq_true rfl) (Nat.le_of_ble_eq_true rfl) (Nat.le_of_ble_eq_true rfl) rfl (fun h e => ?_)
      subst e
      rw [show xkd 3 = 11 from rfl]
      refine yr_cast 24 C dX8_doOrders_21 (rx11 hR (by omega)) rfl cl_X8_152 rfl ?_
      refine yr_get 27 C dX8_doOrders_24 fl_X8_278 (rx11 hR (by omega)) rfl rfl ?_
      refine yr_iload_n 28 C dX8_doOrders_27 rfl rfl ?_
      refine yr_icmp_ne 45 31 C  dX8_doOrders_28 (by decide) rfl (fun c28 => ?_) (fun c28 => ?_)
      · refine yr_iinc2 48 C (1) dX8_doOrders_45 rfl (by decide) rfl ?_
        rw [nI_1]
        refine yr_goto 2 C dX8_doOrders_48 (by decide) ?_
        exact ih (i + 1) X (by omega) hX hx (by rw [← he]; simp only [m_o1L]; rw [k3.1, if_neg c28]) h hR
      · refine yr_aload_n 32 C dX8_doOrders_31 rfl rfl rfl ?_
        refine yr_get 35 C dX8_doOrders_32 fl_X8_22 (rx0 hR) rfl rfl ?_
        refine yr_iload_n 36 C dX8_doOrders_35 rfl rfl ?_
        refine yr_V1v 39 C (jl_get (show 3 < 5 by decide) (j := i) (by omega) _ hR) dX8_doOrders_36 mt_Jx4a65c_get_915e3 mv_Jx4a65c_get_915e3 ml_X8_99 (rx1 hR (show 3 < 5 by decide)) rfl (Nat.le_of_ble_eq_true rfl) (Nat.le_of_ble_eq_true rfl) (Nat.le_of_ble_eq_true rfl) (Nat.le_of_ble_eq_true rfl) (Nat.le_of_ble_eq_true rfl) rfl (fun h e => ?_)
        subst e
        rw [show xkd 3 = 11 from rfl]
        refine yr_cast 42 C dX8_doOrders_39 (rx11 hR (by omega)) rfl cl_X8_152 rfl ?_
        refine yr_V0u 45 C (xc_changeTable i (by omega) hp _ hR) dX8_doOrders_42 mt_X4_changeTable mv_X4_changeTable ml_X8_281 (rx11 hR (by omega)) rfl (Nat.le_of_ble_eq_true rfl) (Nat.le_of_ble_eq_true rfl) (Nat.le_of_ble_eq_true rfl) (Nat.le_of_ble_eq_true rfl) (Nat.le_of_ble_eq_true rfl) rfl (fun h hR => ?_)
        refine yr_iinc2 48 C (1) dX8_doOrders_45 rfl (by decide) rfl ?_
        rw [nI_1]
        refine yr_goto 2 C dX8_doOrders_48 (by decide) ?_
        exact ih (i + 1) (m_ord1 X i) (by omega) (mB_fr hX (mFr_rw (m_ord1_rw X i) rfl)) (fun q hq => by
          rw [← hx q hq]
          unfold m_ord1
          rw [mset_ne _ _ (by omega), mset_ne _ _ (by omega), mset_ne _ _ (by omega)]) (by rw [← he]; simp only [m_o1L]; rw [k3.1, if_pos c28]) h hR
  exact loop2 (N 3) 0 S (by omega) hB (fun _ _ => rfl) rfl h hR
end X16
