/-- what the reference's inner methods need, and leave as it is -/
def mK (S : yS) (np ns nd nr t : Nat) : Nat → Prop
  | 0 => S 1 0 = nI np ∧ np ≤ 8
  | 1 => S 17 0 = nI ns ∧ ns ≤ 6
  | 2 => S 29 0 = nI nr ∧ nr ≤ 6
  | 3 => S 0 0 = nI t ∧ t < 2 ^ 20 ∧ nd ≤ 12
  | 4 => ∀ p, p < np → ∃ k, k ≤ 4 ∧ S 2 p = nI k
  | 5 => ∀ p, p < np → cO (S 4 p) nd
  | 6 => ∀ d, d < nd → cO (S 20 d) 201
  | 7 => ∀ s, s < ns → ∀ k, k < 4 → cO (S 18 (4 * s + k)) np
  | 8 => ∀ k, k < nr → (∃ d, d < nd ∧ S 30 k = nI d) ∧ ∃ d, d < nd ∧ S 31 k = nI d
  | 9 => ∃ b, b ≤ t ∧ S 35 0 = nI b
  | _ => True
def mB (S : yS) (np ns nd nr t : Nat) : Prop := ∀ i, mK S np ns nd nr t i
/-- the rows that mB speaks of are the same -/
def mFr (S S' : yS) : Prop := S' 0 = S 0 ∧ S' 1 = S 1 ∧ S' 2 = S 2 ∧ S' 4 = S 4 ∧ S' 17 = S 17 ∧ S' 18 = S 18 ∧ S' 20 = S 20 ∧ S' 29 = S 29 ∧ S' 30 = S 30 ∧ S' 31 = S 31 ∧ S' 35 = S 35
theorem mB_fr {S S' : yS} {np ns nd nr t : Nat} (hB : mB S np ns nd nr t) (hf : mFr S S') : mB S' np ns nd nr t := by
  obtain ⟨e0, e1, e2, e4, e17, e18, e20, e29, e30, e31, e35⟩ := hf
  intro i
  have := hB i
  unfold mK at this ⊢
  split <;> simp_all
theorem mFr_rf (S : yS) : mFr S S := ⟨rfl, rfl, rfl, rfl, rfl, rfl, rfl, rfl, rfl, rfl, rfl⟩
theorem mFr_tr {S S' S'' : yS} (h : mFr S S') (h' : mFr S' S'') : mFr S S'' := by
  obtain ⟨e0, e1, e2, e4, e17, e18, e20, e29, e30, e31, e35⟩ := h
  obtain ⟨f0, f1, f2, f4, f17, f18, f20, f29, f30, f31, f35⟩ := h'
  exact ⟨f0.trans e0, f1.trans e1, f2.trans e2, f4.trans e4, f17.trans e17, f18.trans e18, f20.trans e20, f29.trans e29, f30.trans e30, f31.trans e31, f35.trans e35⟩
def mFk (k : Nat) : Bool := !([0, 1, 2, 4, 17, 18, 20, 29, 30, 31, 35].contains k)
theorem mFr_set (S : yS) {k : Nat} (j : Nat) (v : Int32) (hk : mFk k = true) : mFr S (mset S k j v) := by
  have h : ∀ i, mFk i = false → mset S k j v i = S i := fun i hi => mset_ne S v (fun e => by rw [e, hk] at hi; cases hi)
  exact ⟨h 0 rfl, h 1 rfl, h 2 rfl, h 4 rfl, h 17 rfl, h 18 rfl, h 20 rfl, h 29 rfl, h 30 rfl, h 31 rfl, h 35 rfl⟩
theorem m_found_fr (S : yS) (a : Nat) (p : Int32) : mFr S (m_found S a p) := mFr_tr (mFr_tr (mFr_set S _ _ rfl) (mFr_set _ _ _ rfl)) (mFr_set _ _ _ rfl)
theorem cO_lt {x : Int32} {b : Nat} (hb : b ≤ 2 ^ 30) (h : cO x b) (hn : ¬ x < 0) : ∃ j : Nat, j < b ∧ x = nI j := by
  rcases h with e | h
  · exact absurd (by rw [e]; decide) hn
  · exact h
theorem cO_neg {x : Int32} {b : Nat} (hb : b ≤ 2 ^ 30) (h : cO x b) (hn : x < 0) : x = -5 := by
  rcases h with e | ⟨j, hj, e⟩
  · exact e
  · rw [e] at hn; exact absurd hn (nI_pos (by omega))
def m_readAt (S : yS) (p : Nat) : Int32 × yS := if S 4 p < 0 then (-1, m_found S 1 (nI p)) else if 0 ≤ S 20 (ix (S 4 p)) then (if S 0 0 < S 20 (ix (S 4 p)) then (200 * S 4 p + S 0 0, S) else (-1, m_found S 2 (nI p))) else (-1, m_found S 1 (nI p))
def m_tr (S : yS) (v : Int32) : yS := mset S 50 0 (S 50 0 + v)
theorem m_tr_ne (S : yS) (v : Int32) {k : Nat} (h : k ≠ 50) : m_tr S v k = S k := mset_ne S _ h
def m_car (S : yS) (a : Nat) : Bool := decide (0 < S 21 a) || !decide (S 22 a < 5000)
theorem m_car_tr (S : yS) (v : Int32) (a : Nat) : m_car (m_tr S v) a = m_car S a := by unfold m_car; rw [m_tr_ne S v (show 21 ≠ 50 by decide), m_tr_ne S v (show 22 ≠ 50 by decide)]
def m_asks (S : yS) (k : Int32) (a : Nat) : Bool × yS := if k = 0 then (m_car S a, m_tr S 1) else if k = 1 then (if 2000 ≤ S 22 a then (true, m_tr S 10) else (m_car S a, m_tr (m_tr S 10) 1)) else if k = 2 then (!decide (S 21 a ≤ 0), m_tr S 100) else (!decide (S 21 a = 0), m_tr S 1000)
def m_doesAsk (S : yS) (p : Nat) : Bool × yS := if 0 ≤ (m_readAt S p).1 then m_asks S (S 2 p) (ix (m_readAt S p).1) else (true, (m_readAt S p).2)
def m_holdK (S : yS) (k : Int32) (a : Nat) : Bool × yS := if k = 0 ∨ k = 1 then (!decide (S 21 a ≤ 0), m_tr S 5) else if k = 2 then (false, m_tr S 50) else (!decide (S 21 a = 0), m_tr S 500)
def m_doesHold (S : yS) (p : Nat) : Bool × yS := if S 2 p = 4 then (true, m_tr S 5000) else if 0 ≤ (m_readAt S p).1 then m_holdK S (S 2 p) (ix (m_readAt S p).1) else (true, (m_readAt S p).2)
/-- the sum of the passings: j places from i on -/
def m_sumL (S : yS) (d : Nat) : Nat → Nat → Int32 → Int32
  | 0, _, a => a
  | j + 1, i, a => m_sumL S d j (i + 1) (a + S 21 (200 * d + i))
def m_gap (S : yS) (p : Nat) : Int32 × yS := if S 2 p = 4 then (0, S) else if S 4 p < 0 then (0, m_found S 1 (nI p)) else if 0 ≤ S 20 (ix (S 4 p)) then (if S 0 0 ≤ S 20 (ix (S 4 p)) then (if m_sumL S (ix (S 4 p)) (ix (S 0 0) - ix (S 35 0)) (ix (S 35 0)) 0 = 0 then (0, m_found S 3 (nI p)) else ((S 0 0 - S 35 0) / m_sumL S (ix (S 4 p)) (ix (S 0 0) - ix (S 35 0)) (ix (S 35 0)) 0, S)) else (0, m_found S 2 (nI p))) else (0, m_found S 1 (nI p))
theorem m_gap_fr (S : yS) (p : Nat) : mFr S (m_gap S p).2 := by
  unfold m_gap
  repeat' split
  all_goals first | exact mFr_rf S | exact m_found_fr S _ _
def m_chg0 (S : yS) (p : Nat) : yS := mset S 5 p (S 5 p + 1)
def m_chg1 (S : yS) (p : Nat) : yS := if S 3 p = 1 then mset (m_gap S p).2 6 p (m_gap S p).1 else S
def m_chg2 (S : yS) (p : Nat) (to : Int32) : yS := mset (mset S 3 p to) 49 0 (S 49 0 + 1)
def m_change (S : yS) (p : Nat) (to : Int32) : yS := m_chg2 (m_chg1 (m_chg0 S p) p) p to
theorem m_change_fr (S : yS) (p : Nat) (to : Int32) : mFr S (m_change S p to) := by
  refine mFr_tr (S' := m_chg0 S p) (mFr_set S p _ (show mFk 5 = true from rfl)) (mFr_tr (S' := m_chg1 (m_chg0 S p) p) ?_ (mFr_tr (mFr_set _ p to (show mFk 3 = true from rfl)) (mFr_set _ 0 _ (show mFk 49 = true from rfl))))
  unfold m_chg1
  split
  · exact mFr_tr (m_gap_fr _ _) (mFr_set _ _ _ rfl)
  · exact mFr_rf _
def m_free (S : yS) (p q : Nat) (u : Int32) : yS := if S 16 (8 * p + q) ≤ 0 then S else if u + S 16 (8 * p + q) - 1 ≤ S 9 q then S else mset S 9 q (u + S 16 (8 * p + q) - 1)
def m_endL (p : Nat) (u : Int32) : Nat → Nat → yS → yS
  | 0, _, S => S
  | j + 1, i, S => m_endL p u j (i + 1) (m_free S p i u)
def m_endsIn (S : yS) (np p : Nat) (u : Int32) : yS := m_endL p u np 0 (mset S 8 p u)
theorem m_free_fr (S : yS) (p q : Nat) (u : Int32) : mFr S (m_free S p q u) := by
  unfold m_free
  split
  · exact mFr_rf S
  · split
    · exact mFr_rf S
    · exact mFr_set S _ _ rfl
theorem m_endL_fr (p : Nat) (u : Int32) : ∀ (j i : Nat) (S : yS), mFr S (m_endL p u j i S)
  | 0, _, S => mFr_rf S
  | j + 1, i, S => mFr_tr (m_free_fr S p i u) (m_endL_fr p u j (i + 1) _)
theorem m_endsIn_fr (S : yS) (np p : Nat) (u : Int32) : mFr S (m_endsIn S np p u) := mFr_tr (mFr_set S p u (show mFk 8 = true from rfl)) (m_endL_fr p u np 0 _)
section M4
variable {Z : (Nat → Prop) → State → Prop} {D : va_G} {dA : Nat → ClassId} {ad : Nat → Nat} {m0 : Nat} {S : yS} {np ns nd nr t : Nat}
set_option maxHeartbeats 4000000 in
set_option maxRecDepth 100000 in
theorem mc_readAt (hZ : yZok D dA Z) (a : Nat) (ha : a < np) (hB : mB S np ns nd nr t) (h : yH) (hR : yMR dA ad m0 (S) h) : yM Z D yX9_readAt cX9_readAt 3 (some .int) 1 0 0 [.ref m0, .int (nI a)] h (fun r h' => r = some (.int (m_readAt S a).1) ∧ yMR dA ad m0 ((m_readAt S a).2) h') := by
  refine yM_of hZ (by decide) rfl (Nat.le_of_ble_eq_true rfl) ?_
  intro p l e s m args below meth c A C hr hin
  show yW p l e (yR 1 0 0) s m args below meth c 3 D A 0 0 _ 0 [some (.ref m0), some (.int (nI a)), none] [] h
  have k0 : S 1 0 = nI np ∧ np ≤ 8 := hB 0
  have k3 : S 0 0 = nI t ∧ t < 2 ^ 20 ∧ nd ≤ 12 := hB 3
  have k5 : cO (S 4 a) nd := (show ∀ p, p < np → cO (S 4 p) nd from hB 5) a ha
  refine yr_aload_n 1 C dX9_readAt_0 rfl rfl rfl ?_
  refine ym_getA 4 C hR dX9_readAt_1 fl_X9_16 (by decide) rfl rfl ?_
  refine yr_iload_n 5 C dX9_readAt_4 rfl rfl ?_
  refine ym_aldN 6 C hR dX9_readAt_5 (by decide) rfl rfl ?_ rfl ?_
  · simp only [mL]; omega
  refine yr_istore2 7 C dX9_readAt_6 (by decide) rfl ?_
  refine yr_iload_n 8 C dX9_readAt_7 rfl rfl ?_
  refine yr_if_lt 20 11 C dX9_readAt_8 (by decide) rfl (fun c8 => ?_) (fun c8 => ?_)
  · refine yr_aload_n 21 C dX9_readAt_20 rfl rfl rfl ?_
    refine yr_iconst 22 C (1) dX9_readAt_21 rfl rfl ?_
    refine yr_iload_n 23 C dX9_readAt_22 rfl rfl ?_
    refine yr_V2u 26 C (mc_found hZ _ (by decide) _ _ hR) dX9_readAt_23 mt_X9_found mv_X9_found ml_X9_169 hR.1 rfl (Nat.le_of_ble_eq_true rfl) (Nat.le_of_ble_eq_true rfl) (Nat.le_of_ble_eq_true rfl) (Nat.le_of_ble_eq_true rfl) (Nat.le_of_ble_eq_true rfl) rfl (fun h hR => ?_)
    refine yr_iconst 27 C (-1) dX9_readAt_26 rfl rfl ?_
    refine yr_iret C dX9_readAt_27 hr (Nat.le_of_ble_eq_true rfl) (Nat.le_of_ble_eq_true rfl) ?_
    refine ⟨?_, ?_⟩
    · first | (simp [m_readAt, c8]; done) | (simp [m_readAt, e0, ed, c8]; done) | (simp [m_readAt, e0, ← ed, c8]; done)
    · first | (simpa [m_readAt, c8] using hR) | (simpa [m_readAt, e0, c8] using hR) | (simpa [m_readAt, e0, ed, c8] using hR)
  · obtain ⟨d, hd, ed⟩ := cO_lt (by omega) k5 c8
    have e0 : ix (S 4 a) = d := by rw [ed]; exact ix_nI (by omega)
    have k6 : cO (S 20 d) 201 := (show ∀ d, d < nd → cO (S 20 d) 201 from hB 6) d hd
    refine yr_aload_n 12 C dX9_readAt_11 rfl rfl rfl ?_
    refine ym_getA 15 C hR dX9_readAt_12 fl_X9_59 (by decide) rfl rfl ?_
    refine yr_iload_n 16 C dX9_readAt_15 rfl rfl ?_
    rw [ed]
    refine ym_aldN 17 C hR dX9_readAt_16 (by decide) rfl rfl ?_ rfl ?_
    · simp only [mL]; omega
    refine yr_if_ge 28 20 C dX9_readAt_17 (by decide) rfl (fun c17 => ?_) (fun c17 => ?_)
    · refine yr_aload_n 29 C dX9_readAt_28 rfl rfl rfl ?_
      refine ym_getA 32 C hR dX9_readAt_29 fl_X9_59 (by decide) rfl rfl ?_
      refine yr_iload_n 33 C dX9_readAt_32 rfl rfl ?_
      refine ym_aldN 34 C hR dX9_readAt_33 (by decide) rfl rfl ?_ rfl ?_
      · simp only [mL]; omega
      refine yr_aload_n 35 C dX9_readAt_34 rfl rfl rfl ?_
      refine ym_get 38 C hR dX9_readAt_35 fl_X9_133 (by decide) rfl rfl ?_
      refine yr_icmp_gt 49 41 C dX9_readAt_38 (by decide) rfl (fun c38 => ?_) (fun c38 => ?_)
      · refine yr_sipush 52 C (200) dX9_readAt_49 rfl rfl ?_
        refine yr_iload_n 53 C dX9_readAt_52 rfl rfl ?_
        refine yr_imul 54 C dX9_readAt_53 rfl ?_
        refine yr_aload_n 55 C dX9_readAt_54 rfl rfl rfl ?_
        refine ym_get 58 C hR dX9_readAt_55 fl_X9_133 (by decide) rfl rfl ?_
        refine yr_iadd 59 C dX9_readAt_58 rfl ?_
        refine yr_iret C dX9_readAt_59 hr (Nat.le_of_ble_eq_true rfl) (Nat.le_of_ble_eq_true rfl) ?_
        refine ⟨?_, ?_⟩
        · first | (simp [m_readAt, c8, c17, c38]; done) | (simp [m_readAt, e0, ed, c8, c17, c38]; done) | (simp [m_readAt, e0, ← ed, c8, c17, c38]; done)
        · first | (simpa [m_readAt, c8, c17, c38] using hR) | (simpa [m_readAt, e0, c8, c17, c38] using hR) | (simpa [m_readAt, e0, ed, c8, c17, c38] using hR)
      · refine yr_aload_n 42 C dX9_readAt_41 rfl rfl rfl ?_
        refine yr_iconst 43 C (2) dX9_readAt_42 rfl rfl ?_
        refine yr_iload_n 44 C dX9_readAt_43 rfl rfl ?_
        refine yr_V2u 47 C (mc_found hZ _ (by decide) _ _ hR) dX9_readAt_44 mt_X9_found mv_X9_found ml_X9_169 hR.1 rfl (Nat.le_of_ble_eq_true rfl) (Nat.le_of_ble_eq_true rfl) (Nat.le_of_ble_eq_true rfl) (Nat.le_of_ble_eq_true rfl) (Nat.le_of_ble_eq_true rfl) rfl (fun h hR => ?_)
        refine yr_iconst 48 C (-1) dX9_readAt_47 rfl rfl ?_
        refine yr_iret C dX9_readAt_48 hr (Nat.le_of_ble_eq_true rfl) (Nat.le_of_ble_eq_true rfl) ?_
        refine ⟨?_, ?_⟩
        · first | (simp [m_readAt, c8, c17, c38]; done) | (simp [m_readAt, e0, ed, c8, c17, c38]; done) | (simp [m_readAt, e0, ← ed, c8, c17, c38]; done)
        · first | (simpa [m_readAt, c8, c17, c38] using hR) | (simpa [m_readAt, e0, c8, c17, c38] using hR) | (simpa [m_readAt, e0, ed, c8, c17, c38] using hR)
    · refine yr_aload_n 21 C dX9_readAt_20 rfl rfl rfl ?_
      refine yr_iconst 22 C (1) dX9_readAt_21 rfl rfl ?_
      refine yr_iload_n 23 C dX9_readAt_22 rfl rfl ?_
      refine yr_V2u 26 C (mc_found hZ _ (by decide) _ _ hR) dX9_readAt_23 mt_X9_found mv_X9_found ml_X9_169 hR.1 rfl (Nat.le_of_ble_eq_true rfl) (Nat.le_of_ble_eq_true rfl) (Nat.le_of_ble_eq_true rfl) (Nat.le_of_ble_eq_true rfl) (Nat.le_of_ble_eq_true rfl) rfl (fun h hR => ?_)
      refine yr_iconst 27 C (-1) dX9_readAt_26 rfl rfl ?_
      refine yr_iret C dX9_readAt_27 hr (Nat.le_of_ble_eq_true rfl) (Nat.le_of_ble_eq_true rfl) ?_
      refine ⟨?_, ?_⟩
      · first | (simp [m_readAt, c8, c17]; done) | (simp [m_readAt, e0, ed, c8, c17]; done) | (simp [m_readAt, e0, ← ed, c8, c17]; done)
      · first | (simpa [m_readAt, c8, c17] using hR) | (simpa [m_readAt, e0, c8, c17] using hR) | (simpa [m_readAt, e0, ed, c8, c17] using hR)
set_option maxHeartbeats 4000000 in
set_option maxRecDepth 100000 in
theorem mc_asksOfCar (hZ : yZok D dA Z) (a : Nat) (ha : a < 2400)  (h : yH) (hR : yMR dA ad m0 (S) h) : yM Z D yX9_asksOfCar cX9_asksOfCar 2 (some .boolean) 0 0 0 [.ref m0, .int (nI a)] h (fun r h' => r = some (.int (bI (m_car S a))) ∧ yMR dA ad m0 (m_tr S 1) h') := by
  refine yM_of hZ (by decide) rfl (Nat.le_of_ble_eq_true rfl) ?_
  intro p l e s m args below meth c A C hr hin
  show yW p l e (yR 0 0 0) s m args below meth c 2 D A 0 0 _ 0 [some (.ref m0), some (.int (nI a))] [] h
  refine yr_aload_n 1 C dX9_asksOfCar_0 rfl rfl rfl ?_
  refine yr_dup 2 C dX9_asksOfCar_1 rfl rfl ?_
  refine ym_get 5 C hR dX9_asksOfCar_2 fl_X9_173 (by decide) rfl rfl ?_
  refine yr_iconst 6 C (1) dX9_asksOfCar_5 rfl rfl ?_
  refine yr_iadd 7 C dX9_asksOfCar_6 rfl ?_
  refine ym_put 10 C hR dX9_asksOfCar_7 fp_X9_173 (by decide) rfl rfl (fun h hR => ?_)
  refine yr_aload_n 11 C dX9_asksOfCar_10 rfl rfl rfl ?_
  refine ym_getA 14 C hR dX9_asksOfCar_11 fl_X9_62 (by decide) rfl rfl ?_
  refine yr_iload_n 15 C dX9_asksOfCar_14 rfl rfl ?_
  refine ym_aldN 16 C hR dX9_asksOfCar_15 (by decide) rfl rfl ?_ rfl ?_
  · simp only [mL]; omega
  rw [mset_ne _ _ (show 21 ≠ 50 by decide)]
  refine yr_if_gt 31 19 C dX9_asksOfCar_16 (by decide) rfl (fun c16 => ?_) (fun c16 => ?_)
  · refine yr_iconst 32 C (1) dX9_asksOfCar_31 rfl rfl ?_
    refine yr_goto 36 C dX9_asksOfCar_32 (by decide) ?_
    refine yr_zret C dX9_asksOfCar_36 hr ?_ (Nat.le_of_ble_eq_true rfl) (Nat.le_of_ble_eq_true rfl) ?_
    · first | exact Or.inl rfl | exact Or.inr rfl
    refine ⟨?_, hR⟩
    simp [m_car, bI, c16]
  · refine yr_aload_n 20 C dX9_asksOfCar_19 rfl rfl rfl ?_
    refine ym_getA 23 C hR dX9_asksOfCar_20 fl_X9_65 (by decide) rfl rfl ?_
    refine yr_iload_n 24 C dX9_asksOfCar_23 rfl rfl ?_
    refine ym_aldN 25 C hR dX9_asksOfCar_24 (by decide) rfl rfl ?_ rfl ?_
    · simp only [mL]; omega
    rw [mset_ne _ _ (show 22 ≠ 50 by decide)]
    refine yr_sipush 28 C (5000) dX9_asksOfCar_25 rfl rfl ?_
    refine yr_icmp_lt 35 31 C dX9_asksOfCar_28 (by decide) rfl (fun c28 => ?_) (fun c28 => ?_)
    · refine yr_iconst 36 C (0) dX9_asksOfCar_35 rfl rfl ?_
      refine yr_zret C dX9_asksOfCar_36 hr ?_ (Nat.le_of_ble_eq_true rfl) (Nat.le_of_ble_eq_true rfl) ?_
      · first | exact Or.inl rfl | exact Or.inr rfl
      refine ⟨?_, hR⟩
      simp [m_car, bI, c16, c28]
    · refine yr_iconst 32 C (1) dX9_asksOfCar_31 rfl rfl ?_
      refine yr_goto 36 C dX9_asksOfCar_32 (by decide) ?_
      refine yr_zret C dX9_asksOfCar_36 hr ?_ (Nat.le_of_ble_eq_true rfl) (Nat.le_of_ble_eq_true rfl) ?_
      · first | exact Or.inl rfl | exact Or.inr rfl
      refine ⟨?_, hR⟩
      simp [m_car, bI, c16, c28]
theorem m_readAt_at (hB : mB S np ns nd nr t) {a : Nat} (ha : a < np) (h : 0 ≤ (m_readAt S a).1) : ∃ y : Nat, y < 2400 ∧ (m_readAt S a).1 = nI y ∧ (m_readAt S a).2 = S := by
  have k3 : S 0 0 = nI t ∧ t < 2 ^ 20 ∧ nd ≤ 12 := hB 3
  have k5 : cO (S 4 a) nd := (show ∀ p, p < np → cO (S 4 p) nd from hB 5) a ha
  by_cases c1 : S 4 a < 0
  · simp only [m_readAt, if_pos c1] at h
    exact absurd h (by decide)
  obtain ⟨d, hd, ed⟩ := cO_lt (by omega) k5 c1
  have e0 : ix (S 4 a) = d := by rw [ed]; exact ix_nI (by omega)
  have k6 : cO (S 20 d) 201 := (show ∀ d, d < nd → cO (S 20 d) 201 from hB 6) d hd
  simp only [m_readAt, if_neg c1, e0] at h ⊢
  by_cases c2 : 0 ≤ S 20 d
  · simp only [if_pos c2] at h ⊢
    by_cases c3 : S 0 0 < S 20 d
    · simp only [if_pos c3] at h ⊢
      rcases k6 with e | ⟨n, hn, e⟩
      · rw [e] at c2; exact absurd c2 (by decide)
      · rw [e, k3.1] at c3
        have hlt : t < n := (nI_ltI (by omega) (by omega)).mp c3
        refine ⟨200 * d + t, by omega, ?_, trivial⟩
        rw [ed, k3.1]
        exact ixm
    · simp only [if_neg c3] at h
      exact absurd h (by decide)
  · simp only [if_neg c2] at h
    exact absurd h (by decide)
theorem sw_out {x : Int32} (hi : Nat) (hh : hi < 2 ^ 30) (h : ∀ i : Nat, i ≤ hi → ¬ x = nI i) : x.toInt < 0 ∨ (hi : Int) < x.toInt := by
  by_cases c : x.toInt < 0
  · exact Or.inl c
  · right
    have hx : ¬ x < 0 := fun q => c (by rw [Int32.lt_iff_toInt_lt] at q; exact q)
    obtain ⟨j, hj, rfl⟩ := nI_of hx
    rw [nI_toInt hj]
    have : ¬ j ≤ hi := fun q => h j q rfl
    omega
set_option maxHeartbeats 4000000 in
set_option maxRecDepth 100000 in
theorem mc_doesAsk (hZ : yZok D dA Z) (a : Nat) (ha : a < np) (hB : mB S np ns nd nr t) (h : yH) (hR : yMR dA ad m0 (S) h) : yM Z D yX9_doesAsk cX9_doesAsk 3 (some .boolean) 2 0 0 [.ref m0, .int (nI a)] h (fun r h' => r = some (.int (bI (m_doesAsk S a).1)) ∧ yMR dA ad m0 ((m_doesAsk S a).2) h') := by
  refine yM_of hZ (by decide) rfl (Nat.le_of_ble_eq_true rfl) ?_
  intro p l e s m args below meth c A C hr hin
  show yW p l e (yR 2 0 0) s m args below meth c 3 D A 0 0 _ 0 [some (.ref m0), some (.int (nI a)), none] [] h
  refine yr_aload_n 1 C dX9_doesAsk_0 rfl rfl rfl ?_
  refine yr_iload_n 2 C dX9_doesAsk_1 rfl rfl ?_
  refine yr_V1v 5 C (mc_readAt hZ _ ha hB _ hR) dX9_doesAsk_2 mt_X9_readAt mv_X9_readAt ml_X9_176 hR.1 rfl (Nat.le_of_ble_eq_true rfl) (Nat.le_of_ble_eq_true rfl) (Nat.le_of_ble_eq_true rfl) (Nat.le_of_ble_eq_true rfl) (Nat.le_of_ble_eq_true rfl) rfl (fun h hR => ?_)
  refine yr_istore2 6 C dX9_doesAsk_5 (by decide) rfl ?_
  skip
  refine yr_iload_n 7 C dX9_doesAsk_6 rfl rfl ?_
  refine yr_if_ge 12 10 C dX9_doesAsk_7 (by decide) rfl (fun c7 => ?_) (fun c7 => ?_)
  · have k4 : ∃ k, k ≤ 4 ∧ S 2 a = nI k := (show ∀ p, p < np → ∃ k, k ≤ 4 ∧ S 2 p = nI k from hB 4) a ha
    have hr1 := m_readAt_at hB ha c7
    obtain ⟨y, hy, ey, eS⟩ := hr1
    have e9 : ix (m_readAt S a).1 = y := by rw [ey]; exact ix_nI (by omega)
    rw [eS] at hR
    rw [ey]
    refine yr_aload_n 13 C dX9_doesAsk_12 rfl rfl rfl ?_
    refine ym_getA 16 C hR dX9_doesAsk_13 fl_X9_7 (by decide) rfl rfl ?_
    refine yr_iload_n 17 C dX9_doesAsk_16 rfl rfl ?_
    refine ym_aldN 18 C hR dX9_doesAsk_17 (by decide) rfl rfl ?_ rfl ?_
    · simp only [mL]; have := (show S 1 0 = nI np ∧ np ≤ 8 from hB 0); omega
    by_cases z18_0 : S 2 a = 0
    · rw [z18_0]
      refine yr_tabIn (off := 26) 44 C dX9_doesAsk_18 (by decide) (by decide) rfl (by decide) ?_
      refine yr_aload_n 45 C dX9_doesAsk_44 rfl rfl rfl ?_
      refine yr_iload_n 46 C dX9_doesAsk_45 rfl rfl ?_
      refine yr_V1v 49 C (mc_asksOfCar hZ _ (by omega) _ hR) dX9_doesAsk_46 mt_X9_asksOfCar mv_X9_asksOfCar ml_X9_180 hR.1 rfl (Nat.le_of_ble_eq_true rfl) (Nat.le_of_ble_eq_true rfl) (Nat.le_of_ble_eq_true rfl) (Nat.le_of_ble_eq_true rfl) (Nat.le_of_ble_eq_true rfl) rfl (fun h hR => ?_)
      refine yr_zret C dX9_doesAsk_49 hr ?_ (Nat.le_of_ble_eq_true rfl) (Nat.le_of_ble_eq_true rfl) ?_
      · exact bI_or _
      try rw [m_car_tr] at c78
      refine ⟨?_, ?_⟩
      · simp [m_doesAsk, m_asks, bI, e9, c7, z18_0]
      · simpa [m_doesAsk, m_asks, e9, c7, z18_0] using hR
    by_cases z18_1 : S 2 a = 1
    · rw [z18_1]
      refine yr_tabIn (off := 32) 50 C dX9_doesAsk_18 (by decide) (by decide) rfl (by decide) ?_
      refine yr_aload_n 51 C dX9_doesAsk_50 rfl rfl rfl ?_
      refine yr_dup 52 C dX9_doesAsk_51 rfl rfl ?_
      refine ym_get 55 C hR dX9_doesAsk_52 fl_X9_173 (by decide) rfl rfl ?_
      refine yr_bipush 57 C (10) dX9_doesAsk_55 rfl rfl ?_
      refine yr_iadd 58 C dX9_doesAsk_57 rfl ?_
      refine ym_put 61 C hR dX9_doesAsk_58 fp_X9_173 (by decide) rfl rfl (fun h hR => ?_)
      rw [show mset S 50 0 (S 50 0 + 10) = m_tr S 10 from rfl] at hR
      refine yr_aload_n 62 C dX9_doesAsk_61 rfl rfl rfl ?_
      refine ym_getA 65 C hR dX9_doesAsk_62 fl_X9_65 (by decide) rfl rfl ?_
      refine yr_iload_n 66 C dX9_doesAsk_65 rfl rfl ?_
      refine ym_aldN 67 C hR dX9_doesAsk_66 (by decide) rfl rfl ?_ rfl ?_
      · simp only [mL]; omega
      rw [m_tr_ne _ _ (show 22 ≠ 50 by decide)]
      refine yr_sipush 70 C (2000) dX9_doesAsk_67 rfl rfl ?_
      refine yr_icmp_ge 81 73 C dX9_doesAsk_70 (by decide) rfl (fun c70 => ?_) (fun c70 => ?_)
      · refine yr_iconst 82 C (1) dX9_doesAsk_81 rfl rfl ?_
        refine yr_goto 86 C dX9_doesAsk_82 (by decide) ?_
        refine yr_zret C dX9_doesAsk_86 hr ?_ (Nat.le_of_ble_eq_true rfl) (Nat.le_of_ble_eq_true rfl) ?_
        · first | exact Or.inl rfl | exact Or.inr rfl
        try rw [m_car_tr] at c78
        refine ⟨?_, ?_⟩
        · simp [m_doesAsk, m_asks, bI, e9, c7, z18_0, z18_1, c70]
        · simpa [m_doesAsk, m_asks, e9, c7, z18_0, z18_1, c70] using hR
      · refine yr_aload_n 74 C dX9_doesAsk_73 rfl rfl rfl ?_
        refine yr_iload_n 75 C dX9_doesAsk_74 rfl rfl ?_
        refine yr_V1v 78 C (mc_asksOfCar hZ _ (by omega) _ hR) dX9_doesAsk_75 mt_X9_asksOfCar mv_X9_asksOfCar ml_X9_180 hR.1 rfl (Nat.le_of_ble_eq_true rfl) (Nat.le_of_ble_eq_true rfl) (Nat.le_of_ble_eq_true rfl) (Nat.le_of_ble_eq_true rfl) (Nat.le_of_ble_eq_true rfl) rfl (fun h hR => ?_)
        refine yb_eq 85 81 C dX9_doesAsk_78 (by decide) rfl (fun c78 => ?_) (fun c78 => ?_)
        · refine yr_iconst 86 C (0) dX9_doesAsk_85 rfl rfl ?_
          refine yr_zret C dX9_doesAsk_86 hr ?_ (Nat.le_of_ble_eq_true rfl) (Nat.le_of_ble_eq_true rfl) ?_
          · first | exact Or.inl rfl | exact Or.inr rfl
          try rw [m_car_tr] at c78
          refine ⟨?_, ?_⟩
          · simp [m_doesAsk, m_asks, bI, e9, c7, z18_0, z18_1, c70, c78]
          · simpa [m_doesAsk, m_asks, e9, c7, z18_0, z18_1, c70, c78] using hR
        · refine yr_iconst 82 C (1) dX9_doesAsk_81 rfl rfl ?_
          refine yr_goto 86 C dX9_doesAsk_82 (by decide) ?_
          refine yr_zret C dX9_doesAsk_86 hr ?_ (Nat.le_of_ble_eq_true rfl) (Nat.le_of_ble_eq_true rfl) ?_
          · first | exact Or.inl rfl | exact Or.inr rfl
          try rw [m_car_tr] at c78
          refine ⟨?_, ?_⟩
          · simp [m_doesAsk, m_asks, bI, e9, c7, z18_0, z18_1, c70, c78]
          · simpa [m_doesAsk, m_asks, e9, c7, z18_0, z18_1, c70, c78] using hR
    by_cases z18_2 : S 2 a = 2
    · rw [z18_2]
      refine yr_tabIn (off := 69) 87 C dX9_doesAsk_18 (by decide) (by decide) rfl (by decide) ?_
      refine yr_aload_n 88 C dX9_doesAsk_87 rfl rfl rfl ?_
      refine yr_dup 89 C dX9_doesAsk_88 rfl rfl ?_
      refine ym_get 92 C hR dX9_doesAsk_89 fl_X9_173 (by decide) rfl rfl ?_
      refine yr_bipush 94 C (100) dX9_doesAsk_92 rfl rfl ?_
      refine yr_iadd 95 C dX9_doesAsk_94 rfl ?_
      refine ym_put 98 C hR dX9_doesAsk_95 fp_X9_173 (by decide) rfl rfl (fun h hR => ?_)
      rw [show mset S 50 0 (S 50 0 + 100) = m_tr S 100 from rfl] at hR
      refine yr_aload_n 99 C dX9_doesAsk_98 rfl rfl rfl ?_
      refine ym_getA 102 C hR dX9_doesAsk_99 fl_X9_62 (by decide) rfl rfl ?_
      refine yr_iload_n 103 C dX9_doesAsk_102 rfl rfl ?_
      refine ym_aldN 104 C hR dX9_doesAsk_103 (by decide) rfl rfl ?_ rfl ?_
      · simp only [mL]; omega
      rw [m_tr_ne _ _ (show 21 ≠ 50 by decide)]
      refine yr_if_le 111 107 C dX9_doesAsk_104 (by decide) rfl (fun c104 => ?_) (fun c104 => ?_)
      · refine yr_iconst 112 C (0) dX9_doesAsk_111 rfl rfl ?_
        refine yr_zret C dX9_doesAsk_112 hr ?_ (Nat.le_of_ble_eq_true rfl) (Nat.le_of_ble_eq_true rfl) ?_
        · first | exact Or.inl rfl | exact Or.inr rfl
        try rw [m_car_tr] at c78
        refine ⟨?_, ?_⟩
        · simp [m_doesAsk, m_asks, bI, e9, c7, z18_0, z18_1, z18_2, c104]
        · simpa [m_doesAsk, m_asks, e9, c7, z18_0, z18_1, z18_2, c104] using hR
      · refine yr_iconst 108 C (1) dX9_doesAsk_107 rfl rfl ?_
        refine yr_goto 112 C dX9_doesAsk_108 (by decide) ?_
        refine yr_zret C dX9_doesAsk_112 hr ?_ (Nat.le_of_ble_eq_true rfl) (Nat.le_of_ble_eq_true rfl) ?_
        · first | exact Or.inl rfl | exact Or.inr rfl
        try rw [m_car_tr] at c78
        refine ⟨?_, ?_⟩
        · simp [m_doesAsk, m_asks, bI, e9, c7, z18_0, z18_1, z18_2, c104]
        · simpa [m_doesAsk, m_asks, e9, c7, z18_0, z18_1, z18_2, c104] using hR
    refine yr_tabOut 113 C dX9_doesAsk_18 (sw_out 2 (by decide) (fun i hi => match i, hi with | 0, _ => z18_0 | 1, _ => z18_1 | 2, _ => z18_2 | (n + 3), q => absurd q (by omega))) (by decide) ?_
    refine yr_aload_n 114 C dX9_doesAsk_113 rfl rfl rfl ?_
    refine yr_dup 115 C dX9_doesAsk_114 rfl rfl ?_
    refine ym_get 118 C hR dX9_doesAsk_115 fl_X9_173 (by decide) rfl rfl ?_
    refine yr_sipush 121 C (1000) dX9_doesAsk_118 rfl rfl ?_
    refine yr_iadd 122 C dX9_doesAsk_121 rfl ?_
    refine ym_put 125 C hR dX9_doesAsk_122 fp_X9_173 (by decide) rfl rfl (fun h hR => ?_)
    rw [show mset S 50 0 (S 50 0 + 1000) = m_tr S 1000 from rfl] at hR
    refine yr_aload_n 126 C dX9_doesAsk_125 rfl rfl rfl ?_
    refine ym_getA 129 C hR dX9_doesAsk_126 fl_X9_62 (by decide) rfl rfl ?_
    refine yr_iload_n 130 C dX9_doesAsk_129 rfl rfl ?_
    refine ym_aldN 131 C hR dX9_doesAsk_130 (by decide) rfl rfl ?_ rfl ?_
    · simp only [mL]; omega
    rw [m_tr_ne _ _ (show 21 ≠ 50 by decide)]
    refine yr_if_eq 138 134 C dX9_doesAsk_131 (by decide) rfl (fun c131 => ?_) (fun c131 => ?_)
    · refine yr_iconst 139 C (0) dX9_doesAsk_138 rfl rfl ?_
      refine yr_zret C dX9_doesAsk_139 hr ?_ (Nat.le_of_ble_eq_true rfl) (Nat.le_of_ble_eq_true rfl) ?_
      · first | exact Or.inl rfl | exact Or.inr rfl
      try rw [m_car_tr] at c78
      refine ⟨?_, ?_⟩
      · simp [m_doesAsk, m_asks, bI, e9, c7, z18_0, z18_1, z18_2, c131]
      · simpa [m_doesAsk, m_asks, e9, c7, z18_0, z18_1, z18_2, c131] using hR
    · refine yr_iconst 135 C (1) dX9_doesAsk_134 rfl rfl ?_
      refine yr_goto 139 C dX9_doesAsk_135 (by decide) ?_
      refine yr_zret C dX9_doesAsk_139 hr ?_ (Nat.le_of_ble_eq_true rfl) (Nat.le_of_ble_eq_true rfl) ?_
      · first | exact Or.inl rfl | exact Or.inr rfl
      try rw [m_car_tr] at c78
      refine ⟨?_, ?_⟩
      · simp [m_doesAsk, m_asks, bI, e9, c7, z18_0, z18_1, z18_2, c131]
      · simpa [m_doesAsk, m_asks, e9, c7, z18_0, z18_1, z18_2, c131] using hR
  · refine yr_iconst 11 C (1) dX9_doesAsk_10 rfl rfl ?_
    refine yr_zret C dX9_doesAsk_11 hr ?_ (Nat.le_of_ble_eq_true rfl) (Nat.le_of_ble_eq_true rfl) ?_
    · first | exact Or.inl rfl | exact Or.inr rfl
    refine ⟨?_, ?_⟩
    · simp [m_doesAsk, bI, c7]
    · simpa [m_doesAsk, c7] using hR
set_option maxHeartbeats 4000000 in
set_option maxRecDepth 100000 in
theorem mc_doesHold (hZ : yZok D dA Z) (a : Nat) (ha : a < np) (hB : mB S np ns nd nr t) (h : yH) (hR : yMR dA ad m0 (S) h) : yM Z D yX9_doesHold cX9_doesHold 3 (some .boolean) 2 0 0 [.ref m0, .int (nI a)] h (fun r h' => r = some (.int (bI (m_doesHold S a).1)) ∧ yMR dA ad m0 ((m_doesHold S a).2) h') := by
  refine yM_of hZ (by decide) rfl (Nat.le_of_ble_eq_true rfl) ?_
  intro p l e s m args below meth c A C hr hin
  show yW p l e (yR 2 0 0) s m args below meth c 3 D A 0 0 _ 0 [some (.ref m0), some (.int (nI a)), none] [] h
  have k0 : S 1 0 = nI np ∧ np ≤ 8 := hB 0
  refine yr_aload_n 1 C dX9_doesHold_0 rfl rfl rfl ?_
  refine ym_getA 4 C hR dX9_doesHold_1 fl_X9_7 (by decide) rfl rfl ?_
  refine yr_iload_n 5 C dX9_doesHold_4 rfl rfl ?_
  refine ym_aldN 6 C hR dX9_doesHold_5 (by decide) rfl rfl ?_ rfl ?_
  · simp only [mL]; omega
  refine yr_iconst 7 C (4) dX9_doesHold_6 rfl rfl ?_
  refine yr_icmp_ne 24 10 C dX9_doesHold_7 (by decide) rfl (fun c7 => ?_) (fun c7 => ?_)
  · refine yr_aload_n 25 C dX9_doesHold_24 rfl rfl rfl ?_
    refine yr_iload_n 26 C dX9_doesHold_25 rfl rfl ?_
    refine yr_V1v 29 C (mc_readAt hZ _ ha hB _ hR) dX9_doesHold_26 mt_X9_readAt mv_X9_readAt ml_X9_176 hR.1 rfl (Nat.le_of_ble_eq_true rfl) (Nat.le_of_ble_eq_true rfl) (Nat.le_of_ble_eq_true rfl) (Nat.le_of_ble_eq_true rfl) (Nat.le_of_ble_eq_true rfl) rfl (fun h hR => ?_)
    refine yr_istore2 30 C dX9_doesHold_29 (by decide) rfl ?_
    refine yr_iload_n 31 C dX9_doesHold_30 rfl rfl ?_
    refine yr_if_ge 36 34 C dX9_doesHold_31 (by decide) rfl (fun c31 => ?_) (fun c31 => ?_)
    · have k4 : ∃ k, k ≤ 4 ∧ S 2 a = nI k := (show ∀ p, p < np → ∃ k, k ≤ 4 ∧ S 2 p = nI k from hB 4) a ha
      have hr1 := m_readAt_at hB ha c31
      obtain ⟨y, hy, ey, eS⟩ := hr1
      have e9 : ix (m_readAt S a).1 = y := by rw [ey]; exact ix_nI (by omega)
      rw [eS] at hR
      rw [ey]
      refine yr_aload_n 37 C dX9_doesHold_36 rfl rfl rfl ?_
      refine ym_getA 40 C hR dX9_doesHold_37 fl_X9_7 (by decide) rfl rfl ?_
      refine yr_iload_n 41 C dX9_doesHold_40 rfl rfl ?_
      refine ym_aldN 42 C hR dX9_doesHold_41 (by decide) rfl rfl ?_ rfl ?_
      · simp only [mL]; omega
      by_cases z42_0 : S 2 a = 0
      · rw [z42_0]
        refine yr_tabIn (off := 26) 68 C dX9_doesHold_42 (by decide) (by decide) rfl (by decide) ?_
        refine yr_aload_n 69 C dX9_doesHold_68 rfl rfl rfl ?_
        refine yr_dup 70 C dX9_doesHold_69 rfl rfl ?_
        refine ym_get 73 C hR dX9_doesHold_70 fl_X9_173 (by decide) rfl rfl ?_
        refine yr_iconst 74 C (5) dX9_doesHold_73 rfl rfl ?_
        refine yr_iadd 75 C dX9_doesHold_74 rfl ?_
        refine ym_put 78 C hR dX9_doesHold_75 fp_X9_173 (by decide) rfl rfl (fun h hR => ?_)
        rw [show mset S 50 0 (S 50 0 + 5) = m_tr S 5 from rfl] at hR
        refine yr_aload_n 79 C dX9_doesHold_78 rfl rfl rfl ?_
        refine ym_getA 82 C hR dX9_doesHold_79 fl_X9_62 (by decide) rfl rfl ?_
        refine yr_iload_n 83 C dX9_doesHold_82 rfl rfl ?_
        refine ym_aldN 84 C hR dX9_doesHold_83 (by decide) rfl rfl ?_ rfl ?_
        · simp only [mL]; omega
        rw [m_tr_ne _ _ (show 21 ≠ 50 by decide)]
        refine yr_if_le 91 87 C dX9_doesHold_84 (by decide) rfl (fun c84 => ?_) (fun c84 => ?_)
        · refine yr_iconst 92 C (0) dX9_doesHold_91 rfl rfl ?_
          refine yr_zret C dX9_doesHold_92 hr ?_ (Nat.le_of_ble_eq_true rfl) (Nat.le_of_ble_eq_true rfl) ?_
          · first | exact Or.inl rfl | exact Or.inr rfl
          refine ⟨?_, ?_⟩
          · simp [m_doesHold, m_holdK, bI, e9, c7, c31, z42_0, c84]
          · simpa [m_doesHold, m_holdK, e9, c7, c31, z42_0, c84] using hR
        · refine yr_iconst 88 C (1) dX9_doesHold_87 rfl rfl ?_
          refine yr_goto 92 C dX9_doesHold_88 (by decide) ?_
          refine yr_zret C dX9_doesHold_92 hr ?_ (Nat.le_of_ble_eq_true rfl) (Nat.le_of_ble_eq_true rfl) ?_
          · first | exact Or.inl rfl | exact Or.inr rfl
          refine ⟨?_, ?_⟩
          · simp [m_doesHold, m_holdK, bI, e9, c7, c31, z42_0, c84]
          · simpa [m_doesHold, m_holdK, e9, c7, c31, z42_0, c84] using hR
      by_cases z42_1 : S 2 a = 1
      · rw [z42_1]
        refine yr_tabIn (off := 26) 68 C dX9_doesHold_42 (by decide) (by decide) rfl (by decide) ?_
        refine yr_aload_n 69 C dX9_doesHold_68 rfl rfl rfl ?_
        refine yr_dup 70 C dX9_doesHold_69 rfl rfl ?_
        refine ym_get 73 C hR dX9_doesHold_70 fl_X9_173 (by decide) rfl rfl ?_
        refine yr_iconst 74 C (5) dX9_doesHold_73 rfl rfl ?_
        refine yr_iadd 75 C dX9_doesHold_74 rfl ?_
        refine ym_put 78 C hR dX9_doesHold_75 fp_X9_173 (by decide) rfl rfl (fun h hR => ?_)
        rw [show mset S 50 0 (S 50 0 + 5) = m_tr S 5 from rfl] at hR
        refine yr_aload_n 79 C dX9_doesHold_78 rfl rfl rfl ?_
        refine ym_getA 82 C hR dX9_doesHold_79 fl_X9_62 (by decide) rfl rfl ?_
        refine yr_iload_n 83 C dX9_doesHold_82 rfl rfl ?_
        refine ym_aldN 84 C hR dX9_doesHold_83 (by decide) rfl rfl ?_ rfl ?_
        · simp only [mL]; omega
        rw [m_tr_ne _ _ (show 21 ≠ 50 by decide)]
        refine yr_if_le 91 87 C dX9_doesHold_84 (by decide) rfl (fun c84 => ?_) (fun c84 => ?_)
        · refine yr_iconst 92 C (0) dX9_doesHold_91 rfl rfl ?_
          refine yr_zret C dX9_doesHold_92 hr ?_ (Nat.le_of_ble_eq_true rfl) (Nat.le_of_ble_eq_true rfl) ?_
          · first | exact Or.inl rfl | exact Or.inr rfl
          refine ⟨?_, ?_⟩
          · simp [m_doesHold, m_holdK, bI, e9, c7, c31, z42_0, z42_1, c84]
          · simpa [m_doesHold, m_holdK, e9, c7, c31, z42_0, z42_1, c84] using hR
        · refine yr_iconst 88 C (1) dX9_doesHold_87 rfl rfl ?_
          refine yr_goto 92 C dX9_doesHold_88 (by decide) ?_
          refine yr_zret C dX9_doesHold_92 hr ?_ (Nat.le_of_ble_eq_true rfl) (Nat.le_of_ble_eq_true rfl) ?_
          · first | exact Or.inl rfl | exact Or.inr rfl
          refine ⟨?_, ?_⟩
          · simp [m_doesHold, m_holdK, bI, e9, c7, c31, z42_0, z42_1, c84]
          · simpa [m_doesHold, m_holdK, e9, c7, c31, z42_0, z42_1, c84] using hR
      by_cases z42_2 : S 2 a = 2
      · rw [z42_2]
        refine yr_tabIn (off := 51) 93 C dX9_doesHold_42 (by decide) (by decide) rfl (by decide) ?_
        refine yr_aload_n 94 C dX9_doesHold_93 rfl rfl rfl ?_
        refine yr_dup 95 C dX9_doesHold_94 rfl rfl ?_
        refine ym_get 98 C hR dX9_doesHold_95 fl_X9_173 (by decide) rfl rfl ?_
        refine yr_bipush 100 C (50) dX9_doesHold_98 rfl rfl ?_
        refine yr_iadd 101 C dX9_doesHold_100 rfl ?_
        refine ym_put 104 C hR dX9_doesHold_101 fp_X9_173 (by decide) rfl rfl (fun h hR => ?_)
        rw [show mset S 50 0 (S 50 0 + 50) = m_tr S 50 from rfl] at hR
        refine yr_iconst 105 C (0) dX9_doesHold_104 rfl rfl ?_
        refine yr_zret C dX9_doesHold_105 hr ?_ (Nat.le_of_ble_eq_true rfl) (Nat.le_of_ble_eq_true rfl) ?_
        · first | exact Or.inl rfl | exact Or.inr rfl
        refine ⟨?_, ?_⟩
        · simp [m_doesHold, m_holdK, bI, e9, c7, c31, z42_0, z42_1, z42_2]
        · simpa [m_doesHold, m_holdK, e9, c7, c31, z42_0, z42_1, z42_2] using hR
      refine yr_tabOut 106 C dX9_doesHold_42 (sw_out 2 (by decide) (fun i hi => match i, hi with | 0, _ => z42_0 | 1, _ => z42_1 | 2, _ => z42_2 | (n + 3), q => absurd q (by omega))) (by decide) ?_
      refine yr_aload_n 107 C dX9_doesHold_106 rfl rfl rfl ?_
      refine yr_dup 108 C dX9_doesHold_107 rfl rfl ?_
      refine ym_get 111 C hR dX9_doesHold_108 fl_X9_173 (by decide) rfl rfl ?_
      refine yr_sipush 114 C (500) dX9_doesHold_111 rfl rfl ?_
      refine yr_iadd 115 C dX9_doesHold_114 rfl ?_
      refine ym_put 118 C hR dX9_doesHold_115 fp_X9_173 (by decide) rfl rfl (fun h hR => ?_)
      rw [show mset S 50 0 (S 50 0 + 500) = m_tr S 500 from rfl] at hR
      refine yr_aload_n 119 C dX9_doesHold_118 rfl rfl rfl ?_
      refine ym_getA 122 C hR dX9_doesHold_119 fl_X9_62 (by decide) rfl rfl ?_
      refine yr_iload_n 123 C dX9_doesHold_122 rfl rfl ?_
      refine ym_aldN 124 C hR dX9_doesHold_123 (by decide) rfl rfl ?_ rfl ?_
      · simp only [mL]; omega
      rw [m_tr_ne _ _ (show 21 ≠ 50 by decide)]
      refine yr_if_eq 131 127 C dX9_doesHold_124 (by decide) rfl (fun c124 => ?_) (fun c124 => ?_)
      · refine yr_iconst 132 C (0) dX9_doesHold_131 rfl rfl ?_
        refine yr_zret C dX9_doesHold_132 hr ?_ (Nat.le_of_ble_eq_true rfl) (Nat.le_of_ble_eq_true rfl) ?_
        · first | exact Or.inl rfl | exact Or.inr rfl
        refine ⟨?_, ?_⟩
        · simp [m_doesHold, m_holdK, bI, e9, c7, c31, z42_0, z42_1, z42_2, c124]
        · simpa [m_doesHold, m_holdK, e9, c7, c31, z42_0, z42_1, z42_2, c124] using hR
      · refine yr_iconst 128 C (1) dX9_doesHold_127 rfl rfl ?_
        refine yr_goto 132 C dX9_doesHold_128 (by decide) ?_
        refine yr_zret C dX9_doesHold_132 hr ?_ (Nat.le_of_ble_eq_true rfl) (Nat.le_of_ble_eq_true rfl) ?_
        · first | exact Or.inl rfl | exact Or.inr rfl
        refine ⟨?_, ?_⟩
        · simp [m_doesHold, m_holdK, bI, e9, c7, c31, z42_0, z42_1, z42_2, c124]
        · simpa [m_doesHold, m_holdK, e9, c7, c31, z42_0, z42_1, z42_2, c124] using hR
    · refine yr_iconst 35 C (1) dX9_doesHold_34 rfl rfl ?_
      refine yr_zret C dX9_doesHold_35 hr ?_ (Nat.le_of_ble_eq_true rfl) (Nat.le_of_ble_eq_true rfl) ?_
      · first | exact Or.inl rfl | exact Or.inr rfl
      refine ⟨?_, ?_⟩
      · simp [m_doesHold, bI, c7, c31]
      · simpa [m_doesHold, c7, c31] using hR
  · refine yr_aload_n 11 C dX9_doesHold_10 rfl rfl rfl ?_
    refine yr_dup 12 C dX9_doesHold_11 rfl rfl ?_
    refine ym_get 15 C hR dX9_doesHold_12 fl_X9_173 (by decide) rfl rfl ?_
    refine yr_sipush 18 C (5000) dX9_doesHold_15 rfl rfl ?_
    refine yr_iadd 19 C dX9_doesHold_18 rfl ?_
    refine ym_put 22 C hR dX9_doesHold_19 fp_X9_173 (by decide) rfl rfl (fun h hR => ?_)
    refine yr_iconst 23 C (1) dX9_doesHold_22 rfl rfl ?_
    refine yr_zret C dX9_doesHold_23 hr ?_ (Nat.le_of_ble_eq_true rfl) (Nat.le_of_ble_eq_true rfl) ?_
    · first | exact Or.inl rfl | exact Or.inr rfl
    refine ⟨?_, ?_⟩
    · simp [m_doesHold, bI, c7]
    · simpa [m_doesHold, m_tr, c7] using hR
end M4
