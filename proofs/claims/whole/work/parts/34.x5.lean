def xCl (S : yS) (p q : Nat) : Int32 := if 0 < S 16 (8 * p + q) then S 16 (8 * p + q) - 1 else -5
theorem jmax_le (x y : Int32) : jmax x y = if y ≤ x then x else y := by
  unfold jmax
  by_cases c : x < y
  · rw [if_pos c, if_neg (Int32.not_le.mpr c)]
  · rw [if_neg c, if_pos (Int32.not_lt.mp c)]
theorem jmin_le (x y : Int32) : jmin x y = if x ≤ y then x else y := by
  unfold jmin
  by_cases c : y < x
  · rw [if_pos c, if_neg (Int32.not_le.mpr c)]
  · rw [if_neg c, if_pos (Int32.not_lt.mp c)]
def m_clL (S : yS) (p : Nat) : Nat → Nat → Int32 → Int32
  | 0, _, x => x
  | j + 1, i, x => m_clL S p j (i + 1) (jmax x (xCl S p i))
theorem m_hasL_true (S : yS) (s : Nat) (q : Int32) : ∀ j i, m_hasL S s q j i true = true
  | 0, _ => rfl
  | j + 1, i => m_hasL_true S s q j (i + 1)
theorem m_hdL_true (S : yS) (g : Nat) : ∀ j i, m_hdL S g j i true = true
  | 0, _ => rfl
  | j + 1, i => m_hdL_true S g j (i + 1)
theorem nI_m5 {j : Nat} (h : j < 2 ^ 31) : ¬ nI j = -5 := fun e => by
  have := nI_pos h
  rw [e] at this
  exact this (by decide)
section X5
variable {D : va_G} {dA : Nat → ClassId} {t0 mi : Nat} {S : yS} {lf mc : Nat → Int32} {cap : Nat → Nat} {B : Nat → Nat → Nat} {N : Nat → Nat}
variable {nd nr t : Nat}
set_option maxHeartbeats 4000000 in
set_option maxRecDepth 100000 in
theorem xc_clearingTo (z y : Nat) (hz : z < N 0) (hy : y < N 0) (h8 : N 0 ≤ 8)  (h : yH) (hR : RX dA t0 (S) lf mc cap B N h) : yM (yZ t0 mi D dA) D yX6_clearingTo cX6_clearingTo 3 (some .int) 0 0 0 [.ref (B 3 z), .ref (B 3 y)] h (fun r h' => r = some (.int (xCl S z y)) ∧ RX dA t0 (S) lf mc cap B N h') := by
  refine yM_of (yZ_ok t0 mi D dA) (by decide) rfl (Nat.le_of_ble_eq_true rfl) ?_
  intro p l e s m args below meth c A C hr hin
  show yW p l e (yR 0 0 0) s m args below meth c 3 D A 0 0 _ 0 [some (.ref (B 3 z)), some (.ref (B 3 y)), none] [] h
  refine yr_aload_n 1 C dX6_clearingTo_0 rfl rfl rfl ?_
  refine yr_get 4 C dX6_clearingTo_1 fl_X6_63 (rx3 hR hy) rfl rfl ?_
  refine yr_istore2 5 C dX6_clearingTo_4 (by decide) rfl ?_
  refine yr_iload_n 6 C dX6_clearingTo_5 rfl rfl ?_
  refine yr_if_lt 27 9 C  dX6_clearingTo_6 (by decide) rfl (fun c6 => ?_) (fun c6 => ?_)
  · exact absurd c6 (nI_pos (by omega))
  refine yr_iload_n 10 C dX6_clearingTo_9 rfl rfl ?_
  refine yr_aload_n 11 C dX6_clearingTo_10 rfl rfl rfl ?_
  refine yr_get 14 C dX6_clearingTo_11 fl_X6_9 (rx3 hR hz) rfl rfl ?_
  refine yr_alen 15 0 C (8) dX6_clearingTo_14 (rx4 hR hz) rfl rfl rfl ?_
  refine yr_icmp_ge 27 18 C  dX6_clearingTo_15 (by decide) rfl (fun c15 => ?_) (fun c15 => ?_)
  · exact absurd c15 (nI_ge (b := 8) (by omega) (by decide))
  refine yr_aload_n 19 C dX6_clearingTo_18 rfl rfl rfl ?_
  refine yr_get 22 C dX6_clearingTo_19 fl_X6_9 (rx3 hR hz) rfl rfl ?_
  refine yr_iload_n 23 C dX6_clearingTo_22 rfl rfl ?_
  refine xx_iald 24 C (xCl S z y) dX6_clearingTo_23 (rx4 hR hz) ?_ (by decide) (if_pos (show y < 8 by omega)) rfl ?_
  · omega
  refine yr_goto 29 C dX6_clearingTo_24 (by decide) ?_
  refine yr_iret C dX6_clearingTo_29 hr (Nat.le_of_ble_eq_true rfl) (Nat.le_of_ble_eq_true rfl) ?_
  exact ⟨rfl, hR⟩
set_option maxHeartbeats 4000000 in
set_option maxRecDepth 100000 in
theorem xc_setClearing (z y : Nat) (hz : z < N 0) (hy : y < N 0) (h8 : N 0 ≤ 8) (v : Int32) (hv : 0 < v + 1)  (h : yH) (hR : RX dA t0 (S) lf mc cap B N h) : yM (yZ t0 mi D dA) D yX6_setClearing cX6_setClearing 4 none 0 0 0 [.ref (B 3 z), .ref (B 3 y), .int v] h (fun r h' => r = none ∧ RX dA t0 (mset S 16 (8 * z + y) (v + 1)) lf mc cap B N h') := by
  refine yM_of (yZ_ok t0 mi D dA) (by decide) rfl (Nat.le_of_ble_eq_true rfl) ?_
  intro p l e s m args below meth c A C hr hin
  show yW p l e (yR 0 0 0) s m args below meth c 4 D A 0 0 _ 0 [some (.ref (B 3 z)), some (.ref (B 3 y)), some (.int v), none] [] h
  refine yr_aload_n 1 C dX6_setClearing_0 rfl rfl rfl ?_
  refine yr_get 4 C dX6_setClearing_1 fl_X6_63 (rx3 hR hy) rfl rfl ?_
  refine yr_istore3 5 C dX6_setClearing_4 (by decide) rfl ?_
  refine yr_iload_n 6 C dX6_setClearing_5 rfl rfl ?_
  refine yr_if_lt 25 9 C  dX6_setClearing_6 (by decide) rfl (fun c6 => ?_) (fun c6 => ?_)
  · exact absurd c6 (nI_pos (by omega))
  refine yr_iload_n 10 C dX6_setClearing_9 rfl rfl ?_
  refine yr_aload_n 11 C dX6_setClearing_10 rfl rfl rfl ?_
  refine yr_get 14 C dX6_setClearing_11 fl_X6_9 (rx3 hR hz) rfl rfl ?_
  refine yr_alen 15 0 C (8) dX6_setClearing_14 (rx4 hR hz) rfl rfl rfl ?_
  refine yr_icmp_ge 25 18 C  dX6_setClearing_15 (by decide) rfl (fun c15 => ?_) (fun c15 => ?_)
  · exact absurd c15 (nI_ge (b := 8) (by omega) (by decide))
  refine yr_aload_n 19 C dX6_setClearing_18 rfl rfl rfl ?_
  refine yr_get 22 C dX6_setClearing_19 fl_X6_9 (rx3 hR hz) rfl rfl ?_
  refine yr_iload_n 23 C dX6_setClearing_22 rfl rfl ?_
  refine yr_iload_n 24 C dX6_setClearing_23 rfl rfl ?_
  refine xx_iast 25 C dX6_setClearing_24 (rx4 hR hz) ?_ (by decide) (ru4 hR hz (by omega) _ hv) rfl (fun h hR => ?_)
  · omega
  refine yr_vret C dX6_setClearing_25 hr (Nat.le_of_ble_eq_true rfl) (Nat.le_of_ble_eq_true rfl) ?_
  exact ⟨rfl, hR⟩
set_option maxHeartbeats 4000000 in
set_option maxRecDepth 100000 in
theorem xc_greatestClearing (z : Nat) (hz : z < N 0)  (h : yH) (hR : RX dA t0 (S) lf mc cap B N h) : yM (yZ t0 mi D dA) D yX6_greatestClearing cX6_greatestClearing 6 (some .int) 1 0 0 [.ref (B 3 z)] h (fun r h' => r = some (.int (m_clL S z 8 0 0)) ∧ RX dA t0 (S) lf mc cap B N h') := by
  refine yM_of (yZ_ok t0 mi D dA) (by decide) rfl (Nat.le_of_ble_eq_true rfl) ?_
  intro p l e s m args below meth c A C hr hin
  show yW p l e (yR 1 0 0) s m args below meth c 6 D A 0 0 _ 0 [some (.ref (B 3 z)), none, none, none, none, none] [] h
  refine yr_iconst 1 C (0) dX6_greatestClearing_0 rfl rfl ?_
  refine yr_istore1 2 C dX6_greatestClearing_1 (by decide) rfl ?_
  refine yr_aload_n 3 C dX6_greatestClearing_2 rfl rfl rfl ?_
  refine yr_get 6 C dX6_greatestClearing_3 fl_X6_9 (rx3 hR hz) rfl rfl ?_
  refine yr_astore2 7 C dX6_greatestClearing_6 rfl (by decide) rfl ?_
  refine yr_aload_n 8 C dX6_greatestClearing_7 rfl rfl rfl ?_
  refine yr_alen 9 0 C (8) dX6_greatestClearing_8 (rx4 hR hz) rfl rfl rfl ?_
  refine yr_istore3 10 C dX6_greatestClearing_9 (by decide) rfl ?_
  refine yr_iconst 11 C (0) dX6_greatestClearing_10 rfl rfl ?_
  refine yr_istore4 13 C dX6_greatestClearing_11 (by decide) rfl ?_
  have loop13 : ∀ (j i : Nat) (x : Int32), i + j = 8 → m_clL S z j i x = m_clL S z 8 0 0 → ∀ h : yH, RX dA t0 (S) lf mc cap B N h → yW p l e (yR 1 0 0) s m args below meth c 6 D A 0 0 (yF D A (fun r h' => r = some (.int (m_clL S z 8 0 0)) ∧ RX dA t0 (S) lf mc cap B N h') below args s 0 0) 13 [some (.ref (B 3 z)), some (.int x), some (.ref (B 4 z)), some (.int 8), some (.int (nI i)), none] [] h := by
    intro j
    induction j with
    | zero =>
      intro i x hij he h hR
      obtain rfl : i = 8 := by omega
      refine yr_iload 15 C dX6_greatestClearing_13 rfl rfl ?_
      refine yr_iload_n 16 C dX6_greatestClearing_15 rfl rfl ?_
      refine yr_icmp_ge 38 19 C  dX6_greatestClearing_16 (by decide) rfl (fun c16 => ?_) (fun c16 => ?_)
      rotate_left
      · exact absurd (by decide) c16
      refine yr_iload_n 39 C dX6_greatestClearing_38 rfl rfl ?_
      refine yr_iret C dX6_greatestClearing_39 hr (Nat.le_of_ble_eq_true rfl) (Nat.le_of_ble_eq_true rfl) ?_
      exact ⟨by rw [← he]; rfl, hR⟩
    | succ j ih =>
      intro i x hij he h hR
      refine yr_iload 15 C dX6_greatestClearing_13 rfl rfl ?_
      refine yr_iload_n 16 C dX6_greatestClearing_15 rfl rfl ?_
      refine yr_icmp_ge 38 19 C  dX6_greatestClearing_16 (by decide) rfl (fun c16 => ?_) (fun c16 => ?_)
      · exact absurd c16 (nI_ge (b := 8) (by omega) (by decide))
      refine yr_aload_n 20 C dX6_greatestClearing_19 rfl rfl rfl ?_
      refine yr_iload 22 C dX6_greatestClearing_20 rfl rfl ?_
      refine xx_iald 23 C (xCl S z i) dX6_greatestClearing_22 (rx4 hR hz) ?_ (by decide) (if_pos (show i < 8 by omega)) rfl ?_
      · omega
      refine yr_istore5 25 C dX6_greatestClearing_23 (by decide) rfl ?_
      refine yr_iload_n 26 C dX6_greatestClearing_25 rfl rfl ?_
      refine yr_iload 28 C dX6_greatestClearing_26 rfl rfl ?_
      refine yr_S2v 31 C (jc_max _ _ _) dX6_greatestClearing_28 mt_J9_max_7cf53 ms_J9_max_7cf53 ml_X6_69 (Nat.le_of_ble_eq_true rfl) (Nat.le_of_ble_eq_true rfl) (Nat.le_of_ble_eq_true rfl) (Nat.le_of_ble_eq_true rfl) (Nat.le_of_ble_eq_true rfl) rfl (fun h e => ?_)
      subst e
      refine yr_istore1 32 C dX6_greatestClearing_31 (by decide) rfl ?_
      refine yr_iinc4 35 C (1) dX6_greatestClearing_32 rfl (by decide) rfl ?_
      rw [nI_1]
      refine yr_goto 13 C dX6_greatestClearing_35 (by decide) ?_
      refine yr_forget5 ?_
      exact ih (i + 1) _ (by omega) he h hR
  exact loop13 8 0 0 rfl rfl h hR
theorem xx_xor (a b : Nat) : nI a ^^^ nI b = nI (a ^^^ b) := by
  apply Int32.toBitVec_inj.1
  show BitVec.ofNat 32 a ^^^ BitVec.ofNat 32 b = BitVec.ofNat 32 (a ^^^ b)
  apply BitVec.eq_of_getLsbD_eq
  intro i hi
  simp [hi]
theorem jfm_61 {a : Nat} (ha : a < 2 ^ 31) : jfm (nI a) 61 = nI (a % 61) := by
  unfold jfm
  have e : nI a - nI a / 61 * 61 = nI (a % 61) := pk_rem (d := 61) ha (by decide) (by decide)
  have hx : 0 ≤ nI a ^^^ 61 := by
    have e2 : nI a ^^^ 61 = nI (a ^^^ 61) := xx_xor a 61
    rw [e2]
    exact nI_pos' (Nat.xor_lt_two_pow ha (by decide))
  rw [if_pos hx, e]
set_option maxHeartbeats 4000000 in
set_option maxRecDepth 100000 in
theorem xc_isBroken (k : Nat) (hk : k < N 4)  (h : yH) (hR : RX dA t0 (S) lf mc cap B N h) : yM (yZ t0 mi D dA) D yX5_isBroken cX5_isBroken 1 (some .boolean) 0 0 0 [.ref (B 12 k)] h (fun r h' => r = some (.int (bI (!decide (S 33 k < S 32 k)))) ∧ RX dA t0 (S) lf mc cap B N h') := by
  refine yM_of (yZ_ok t0 mi D dA) (by decide) rfl (Nat.le_of_ble_eq_true rfl) ?_
  intro p l e s m args below meth c A C hr hin
  show yW p l e (yR 0 0 0) s m args below meth c 1 D A 0 0 _ 0 [some (.ref (B 12 k))] [] h
  refine yr_aload_n 1 C dX5_isBroken_0 rfl rfl rfl ?_
  refine yr_get 4 C dX5_isBroken_1 fl_X5_7 (rx12 hR hk) rfl rfl ?_
  refine yr_aload_n 5 C dX5_isBroken_4 rfl rfl rfl ?_
  refine yr_get 8 C dX5_isBroken_5 fl_X5_20 (rx12 hR hk) rfl rfl ?_
  refine yr_icmp_lt 15 11 C  dX5_isBroken_8 (by decide) rfl (fun c8 => ?_) (fun c8 => ?_)
  · refine yr_iconst 16 C (0) dX5_isBroken_15 rfl rfl ?_
    refine yr_zret C dX5_isBroken_16 hr ?_ (Nat.le_of_ble_eq_true rfl) (Nat.le_of_ble_eq_true rfl) ?_
    · first | exact bI_or _ | exact Or.inl rfl | exact Or.inr rfl
    exact ⟨by simp [bI, c8], hR⟩
  · refine yr_iconst 12 C (1) dX5_isBroken_11 rfl rfl ?_
    refine yr_goto 16 C dX5_isBroken_12 (by decide) ?_
    refine yr_zret C dX5_isBroken_16 hr ?_ (Nat.le_of_ble_eq_true rfl) (Nat.le_of_ble_eq_true rfl) ?_
    · first | exact bI_or _ | exact Or.inl rfl | exact Or.inr rfl
    exact ⟨by simp [bI, c8], hR⟩
set_option maxHeartbeats 4000000 in
set_option maxRecDepth 100000 in
theorem xc_beginAnew (k : Nat) (hk : k < N 4)  (h : yH) (hR : RX dA t0 (S) lf mc cap B N h) : yM (yZ t0 mi D dA) D yX5_beginAnew cX5_beginAnew 1 none 0 0 0 [.ref (B 12 k)] h (fun r h' => r = none ∧ RX dA t0 (mset S 33 k 0) lf mc cap B N h') := by
  refine yM_of (yZ_ok t0 mi D dA) (by decide) rfl (Nat.le_of_ble_eq_true rfl) ?_
  intro p l e s m args below meth c A C hr hin
  show yW p l e (yR 0 0 0) s m args below meth c 1 D A 0 0 _ 0 [some (.ref (B 12 k))] [] h
  refine yr_aload_n 1 C dX5_beginAnew_0 rfl rfl rfl ?_
  refine yr_iconst 2 C (0) dX5_beginAnew_1 rfl rfl ?_
  refine xx_put 5 C dX5_beginAnew_2 fp_X5_7 (rx12 hR hk) (Nat.le_of_ble_eq_true rfl) rfl rfl (ru12_3 hR hk _) rfl (fun h hR => ?_)
  refine yr_vret C dX5_beginAnew_5 hr (Nat.le_of_ble_eq_true rfl) (Nat.le_of_ble_eq_true rfl) ?_
  exact ⟨rfl, hR⟩
set_option maxHeartbeats 4000000 in
set_option maxRecDepth 100000 in
theorem xc_hasPhase (g y : Nat) (hg : g < N 1) (hy : y < N 0) (hB : mB S (N 0) (N 1) nd nr t) (h : yH) (hR : RX dA t0 (S) lf mc cap B N h) : yM (yZ t0 mi D dA) D yX7_hasPhase cX7_hasPhase 6 (some .boolean) 0 0 0 [.ref (B 6 g), .ref (B 3 y)] h (fun r h' => r = some (.int (bI (m_has S g (nI y)))) ∧ RX dA t0 (S) lf mc cap B N h') := by
  refine yM_of (yZ_ok t0 mi D dA) (by decide) rfl (Nat.le_of_ble_eq_true rfl) ?_
  intro p l e s m args below meth c A C hr hin
  show yW p l e (yR 0 0 0) s m args below meth c 6 D A 0 0 _ 0 [some (.ref (B 6 g)), some (.ref (B 3 y)), none, none, none, none] [] h
  have n0 : N 0 ≤ 8 := (show S 1 0 = nI (N 0) ∧ N 0 ≤ 8 from hB 0).2
  have n1 : N 1 ≤ 6 := (show S 17 0 = nI (N 1) ∧ N 1 ≤ 6 from hB 1).2
  refine yr_aload_n 1 C dX7_hasPhase_0 rfl rfl rfl ?_
  refine yr_get 4 C dX7_hasPhase_1 fl_X7_11 (rx6 hR hg) rfl rfl ?_
  refine yr_astore2 5 C dX7_hasPhase_4 rfl (by decide) rfl ?_
  refine yr_aload_n 6 C dX7_hasPhase_5 rfl rfl rfl ?_
  refine yr_alen 7 4 C (4) dX7_hasPhase_6 (rx7 hR hg) rfl rfl rfl ?_
  refine yr_istore3 8 C dX7_hasPhase_7 (by decide) rfl ?_
  refine yr_iconst 9 C (0) dX7_hasPhase_8 rfl rfl ?_
  refine yr_istore4 11 C dX7_hasPhase_9 (by decide) rfl ?_
  have loop11 : ∀ (j i : Nat) , i + j = 4 → m_hasL S g (nI y) j i false = m_has S g (nI y) → ∀ h : yH, RX dA t0 (S) lf mc cap B N h → yW p l e (yR 0 0 0) s m args below meth c 6 D A 0 0 (yF D A (fun r h' => r = some (.int (bI (m_has S g (nI y)))) ∧ RX dA t0 (S) lf mc cap B N h') below args s 0 0) 11 [some (.ref (B 6 g)), some (.ref (B 3 y)), some (.ref (B 7 g)), some (.int 4), some (.int (nI i)), none] [] h := by
    intro j
    induction j with
    | zero =>
      intro i  hij he h hR
      obtain rfl : i = 4 := by omega
      refine yr_iload 13 C dX7_hasPhase_11 rfl rfl ?_
      refine yr_iload_n 14 C dX7_hasPhase_13 rfl rfl ?_
      refine yr_icmp_ge 42 17 C  dX7_hasPhase_14 (by decide) rfl (fun c14 => ?_) (fun c14 => ?_)
      rotate_left
      · exact absurd (by decide) c14
      refine yr_iconst 43 C (0) dX7_hasPhase_42 rfl rfl ?_
      refine yr_zret C dX7_hasPhase_43 hr ?_ (Nat.le_of_ble_eq_true rfl) (Nat.le_of_ble_eq_true rfl) ?_
      · first | exact bI_or _ | exact Or.inl rfl | exact Or.inr rfl
      refine ⟨?_, hR⟩
      rw [← he]
      rfl
    | succ j ih =>
      intro i  hij he h hR
      have q7 : cO (S 18 (4 * g + i)) (N 0) := (show ∀ s, s < N 1 → ∀ k, k < 4 → cO (S 18 (4 * s + k)) (N 0) from hB 7) g hg i (by omega)
      refine yr_iload 13 C dX7_hasPhase_11 rfl rfl ?_
      refine yr_iload_n 14 C dX7_hasPhase_13 rfl rfl ?_
      refine yr_icmp_ge 42 17 C  dX7_hasPhase_14 (by decide) rfl (fun c14 => ?_) (fun c14 => ?_)
      · exact absurd c14 (nI_ge (b := 4) (by omega) (by decide))
      refine yr_aload_n 18 C dX7_hasPhase_17 rfl rfl rfl ?_
      refine yr_iload 20 C dX7_hasPhase_18 rfl rfl ?_
      refine xx_place 21 C hR hg (by omega) n0 q7 dX7_hasPhase_20 rfl (fun en => ?_) (fun z hz ez => ?_)
      · refine yr_astore5 23 C dX7_hasPhase_21 rfl (by decide) rfl ?_
        refine yr_aload 25 C dX7_hasPhase_23 rfl rfl rfl ?_
        refine yr_ifnull_n 36 C dX7_hasPhase_25 (by decide) ?_
        refine yr_iinc4 39 C (1) dX7_hasPhase_36 rfl (by decide) rfl ?_
        rw [nI_1]
        refine yr_goto 11 C dX7_hasPhase_39 (by decide) ?_
        refine yr_forget5 ?_
        exact ih (i + 1) (by omega) (by rw [← he]; simp [m_hasL, en, Ne.symm (nI_m5 (show y < 2 ^ 31 by omega))]) h hR
      · refine yr_astore5 23 C dX7_hasPhase_21 rfl (by decide) rfl ?_
        refine yr_aload 25 C dX7_hasPhase_23 rfl rfl rfl ?_
        refine yr_ifnull_r 28 C dX7_hasPhase_25 rfl ?_
        refine yr_aload 30 C dX7_hasPhase_28 rfl rfl rfl ?_
        refine yr_aload_n 31 C dX7_hasPhase_30 rfl rfl rfl ?_
        refine yr_acmp_ne 36 34 C (x := some (B 3 z)) (y := some (B 3 y)) dX7_hasPhase_31 (by decide) rfl (fun c31 => ?_) (fun c31 => ?_)
        · refine yr_iinc4 39 C (1) dX7_hasPhase_36 rfl (by decide) rfl ?_
          rw [nI_1]
          refine yr_goto 11 C dX7_hasPhase_39 (by decide) ?_
          have hne : ¬ nI z = nI y := fun q => c31 (by rw [(nI_eq (by omega) (by omega)).mp q])
          refine yr_forget5 ?_
          exact ih (i + 1) (by omega) (by rw [← he]; simp [m_hasL, ez, hne]) h hR
        · refine yr_iconst 35 C (1) dX7_hasPhase_34 rfl rfl ?_
          refine yr_zret C dX7_hasPhase_35 hr ?_ (Nat.le_of_ble_eq_true rfl) (Nat.le_of_ble_eq_true rfl) ?_
          · first | exact bI_or _ | exact Or.inl rfl | exact Or.inr rfl
          have hzy : z = y := (hR.2.1 3 z 3 y hz hy (Option.some.inj c31)).2
          refine ⟨?_, hR⟩
          rw [← he]
          simp [m_hasL, ez, hzy, m_hasL_true, bI]
  exact loop11 4 0 rfl rfl h hR
set_option maxHeartbeats 4000000 in
set_option maxRecDepth 100000 in
theorem xc_isHeld (g : Nat) (hg : g < N 1) (hB : mB S (N 0) (N 1) nd nr t) (h : yH) (hR : RX dA t0 (S) lf mc cap B N h) : yM (yZ t0 mi D dA) D yX7_isHeld cX7_isHeld 5 (some .boolean) 0 0 0 [.ref (B 6 g)] h (fun r h' => r = some (.int (bI (m_hdL S g 4 0 false))) ∧ RX dA t0 (S) lf mc cap B N h') := by
  refine yM_of (yZ_ok t0 mi D dA) (by decide) rfl (Nat.le_of_ble_eq_true rfl) ?_
  intro p l e s m args below meth c A C hr hin
  show yW p l e (yR 0 0 0) s m args below meth c 5 D A 0 0 _ 0 [some (.ref (B 6 g)), none, none, none, none] [] h
  have n0 : N 0 ≤ 8 := (show S 1 0 = nI (N 0) ∧ N 0 ≤ 8 from hB 0).2
  have n1 : N 1 ≤ 6 := (show S 17 0 = nI (N 1) ∧ N 1 ≤ 6 from hB 1).2
  refine yr_aload_n 1 C dX7_isHeld_0 rfl rfl rfl ?_
  refine yr_get 4 C dX7_isHeld_1 fl_X7_11 (rx6 hR hg) rfl rfl ?_
  refine yr_astore1 5 C dX7_isHeld_4 rfl (by decide) rfl ?_
  refine yr_aload_n 6 C dX7_isHeld_5 rfl rfl rfl ?_
  refine yr_alen 7 4 C (4) dX7_isHeld_6 (rx7 hR hg) rfl rfl rfl ?_
  refine yr_istore2 8 C dX7_isHeld_7 (by decide) rfl ?_
  refine yr_iconst 9 C (0) dX7_isHeld_8 rfl rfl ?_
  refine yr_istore3 10 C dX7_isHeld_9 (by decide) rfl ?_
  have loop10 : ∀ (j i : Nat) , i + j = 4 → m_hdL S g j i false = m_hdL S g 4 0 false → ∀ h : yH, RX dA t0 (S) lf mc cap B N h → yW p l e (yR 0 0 0) s m args below meth c 5 D A 0 0 (yF D A (fun r h' => r = some (.int (bI (m_hdL S g 4 0 false))) ∧ RX dA t0 (S) lf mc cap B N h') below args s 0 0) 10 [some (.ref (B 6 g)), some (.ref (B 7 g)), some (.int 4), some (.int (nI i)), none] [] h := by
    intro j
    induction j with
    | zero =>
      intro i  hij he h hR
      obtain rfl : i = 4 := by omega
      refine yr_iload_n 11 C dX7_isHeld_10 rfl rfl ?_
      refine yr_iload_n 12 C dX7_isHeld_11 rfl rfl ?_
      refine yr_icmp_ge 41 15 C  dX7_isHeld_12 (by decide) rfl (fun c12 => ?_) (fun c12 => ?_)
      rotate_left
      · exact absurd (by decide) c12
      refine yr_iconst 42 C (0) dX7_isHeld_41 rfl rfl ?_
      refine yr_zret C dX7_isHeld_42 hr ?_ (Nat.le_of_ble_eq_true rfl) (Nat.le_of_ble_eq_true rfl) ?_
      · first | exact bI_or _ | exact Or.inl rfl | exact Or.inr rfl
      refine ⟨?_, hR⟩
      rw [← he]
      rfl
    | succ j ih =>
      intro i  hij he h hR
      have q7 : cO (S 18 (4 * g + i)) (N 0) := (show ∀ s, s < N 1 → ∀ k, k < 4 → cO (S 18 (4 * s + k)) (N 0) from hB 7) g hg i (by omega)
      refine yr_iload_n 11 C dX7_isHeld_10 rfl rfl ?_
      refine yr_iload_n 12 C dX7_isHeld_11 rfl rfl ?_
      refine yr_icmp_ge 41 15 C  dX7_isHeld_12 (by decide) rfl (fun c12 => ?_) (fun c12 => ?_)
      · exact absurd c12 (nI_ge (b := 4) (by omega) (by decide))
      refine yr_aload_n 16 C dX7_isHeld_15 rfl rfl rfl ?_
      refine yr_iload_n 17 C dX7_isHeld_16 rfl rfl ?_
      refine xx_place 18 C hR hg (by omega) n0 q7 dX7_isHeld_17 rfl (fun en => ?_) (fun z hz ez => ?_)
      · refine yr_astore4 20 C dX7_isHeld_18 rfl (by decide) rfl ?_
        refine yr_aload 22 C dX7_isHeld_20 rfl rfl rfl ?_
        refine yr_ifnull_n 35 C dX7_isHeld_22 (by decide) ?_
        refine yr_iinc3 38 C (1) dX7_isHeld_35 rfl (by decide) rfl ?_
        rw [nI_1]
        refine yr_goto 10 C dX7_isHeld_38 (by decide) ?_
        refine yr_forget4 ?_
        exact ih (i + 1) (by omega) (by rw [← he]; simp [m_hdL, en]) h hR
      · refine yr_astore4 20 C dX7_isHeld_18 rfl (by decide) rfl ?_
        refine yr_aload 22 C dX7_isHeld_20 rfl rfl rfl ?_
        refine yr_ifnull_r 25 C dX7_isHeld_22 rfl ?_
        refine yr_aload 27 C dX7_isHeld_25 rfl rfl rfl ?_
        refine yr_get 30 C dX7_isHeld_27 fl_X7_44 (rx3 hR hz) rfl rfl ?_
        refine yr_if_eq 35 33 C  dX7_isHeld_30 (by decide) rfl (fun c30 => ?_) (fun c30 => ?_)
        · refine yr_iinc3 38 C (1) dX7_isHeld_35 rfl (by decide) rfl ?_
          rw [nI_1]
          refine yr_goto 10 C dX7_isHeld_38 (by decide) ?_
          refine yr_forget4 ?_
          exact ih (i + 1) (by omega) (by rw [← he]; simp [m_hdL, ez, ix_nI (show z < 2 ^ 31 by omega), c30]) h hR
        · refine yr_iconst 34 C (1) dX7_isHeld_33 rfl rfl ?_
          refine yr_zret C dX7_isHeld_34 hr ?_ (Nat.le_of_ble_eq_true rfl) (Nat.le_of_ble_eq_true rfl) ?_
          · first | exact bI_or _ | exact Or.inl rfl | exact Or.inr rfl
          refine ⟨?_, hR⟩
          rw [← he]
          simp [m_hdL, ez, ix_nI (show z < 2 ^ 31 by omega), c30, nI_pos (show z < 2 ^ 31 by omega), m_hdL_true, bI]
  exact loop10 4 0 rfl rfl h hR
set_option maxHeartbeats 4000000 in
set_option maxRecDepth 100000 in
theorem xc_leastGreen (g : Nat) (hg : g < N 1) (hB : mB S (N 0) (N 1) nd nr t) (h : yH) (hR : RX dA t0 (S) lf mc cap B N h) : yM (yZ t0 mi D dA) D yX7_leastGreen cX7_leastGreen 6 (some .int) 1 0 0 [.ref (B 6 g)] h (fun r h' => r = some (.int (m_least S g)) ∧ RX dA t0 (S) lf mc cap B N h') := by
  refine yM_of (yZ_ok t0 mi D dA) (by decide) rfl (Nat.le_of_ble_eq_true rfl) ?_
  intro p l e s m args below meth c A C hr hin
  show yW p l e (yR 1 0 0) s m args below meth c 6 D A 0 0 _ 0 [some (.ref (B 6 g)), none, none, none, none, none] [] h
  have n0 : N 0 ≤ 8 := (show S 1 0 = nI (N 0) ∧ N 0 ≤ 8 from hB 0).2
  have n1 : N 1 ≤ 6 := (show S 17 0 = nI (N 1) ∧ N 1 ≤ 6 from hB 1).2
  refine yr_iconst 1 C (0) dX7_leastGreen_0 rfl rfl ?_
  refine yr_istore1 2 C dX7_leastGreen_1 (by decide) rfl ?_
  refine yr_aload_n 3 C dX7_leastGreen_2 rfl rfl rfl ?_
  refine yr_get 6 C dX7_leastGreen_3 fl_X7_11 (rx6 hR hg) rfl rfl ?_
  refine yr_astore2 7 C dX7_leastGreen_6 rfl (by decide) rfl ?_
  refine yr_aload_n 8 C dX7_leastGreen_7 rfl rfl rfl ?_
  refine yr_alen 9 4 C (4) dX7_leastGreen_8 (rx7 hR hg) rfl rfl rfl ?_
  refine yr_istore3 10 C dX7_leastGreen_9 (by decide) rfl ?_
  refine yr_iconst 11 C (0) dX7_leastGreen_10 rfl rfl ?_
  refine yr_istore4 13 C dX7_leastGreen_11 (by decide) rfl ?_
  have loop13 : ∀ (j i : Nat) (x : Int32), i + j = 4 → m_leastL S g j i x = m_least S g → ∀ h : yH, RX dA t0 (S) lf mc cap B N h → yW p l e (yR 1 0 0) s m args below meth c 6 D A 0 0 (yF D A (fun r h' => r = some (.int (m_least S g)) ∧ RX dA t0 (S) lf mc cap B N h') below args s 0 0) 13 [some (.ref (B 6 g)), some (.int x), some (.ref (B 7 g)), some (.int 4), some (.int (nI i)), none] [] h := by
    intro j
    induction j with
    | zero =>
      intro i x hij he h hR
      obtain rfl : i = 4 := by omega
      refine yr_iload 15 C dX7_leastGreen_13 rfl rfl ?_
      refine yr_iload_n 16 C dX7_leastGreen_15 rfl rfl ?_
      refine yr_icmp_ge 46 19 C  dX7_leastGreen_16 (by decide) rfl (fun c16 => ?_) (fun c16 => ?_)
      rotate_left
      · exact absurd (by decide) c16
      refine yr_iload_n 47 C dX7_leastGreen_46 rfl rfl ?_
      refine yr_iret C dX7_leastGreen_47 hr (Nat.le_of_ble_eq_true rfl) (Nat.le_of_ble_eq_true rfl) ?_
      refine ⟨?_, hR⟩
      rw [← he]
      rfl
    | succ j ih =>
      intro i x hij he h hR
      have q7 : cO (S 18 (4 * g + i)) (N 0) := (show ∀ s, s < N 1 → ∀ k, k < 4 → cO (S 18 (4 * s + k)) (N 0) from hB 7) g hg i (by omega)
      refine yr_iload 15 C dX7_leastGreen_13 rfl rfl ?_
      refine yr_iload_n 16 C dX7_leastGreen_15 rfl rfl ?_
      refine yr_icmp_ge 46 19 C  dX7_leastGreen_16 (by decide) rfl (fun c16 => ?_) (fun c16 => ?_)
      · exact absurd c16 (nI_ge (b := 4) (by omega) (by decide))
      refine yr_aload_n 20 C dX7_leastGreen_19 rfl rfl rfl ?_
      refine yr_iload 22 C dX7_leastGreen_20 rfl rfl ?_
      refine xx_place 23 C hR hg (by omega) n0 q7 dX7_leastGreen_22 rfl (fun en => ?_) (fun z hz ez => ?_)
      · refine yr_astore5 25 C dX7_leastGreen_23 rfl (by decide) rfl ?_
        refine yr_aload 27 C dX7_leastGreen_25 rfl rfl rfl ?_
        refine yr_ifnull_n 40 C dX7_leastGreen_27 (by decide) ?_
        refine yr_iinc4 43 C (1) dX7_leastGreen_40 rfl (by decide) rfl ?_
        rw [nI_1]
        refine yr_goto 13 C dX7_leastGreen_43 (by decide) ?_
        refine yr_forget5 ?_
        exact ih (i + 1) _ (by omega) (by rw [← he]; simp [m_leastL, m_leastS, en]) h hR
      · refine yr_astore5 25 C dX7_leastGreen_23 rfl (by decide) rfl ?_
        refine yr_aload 27 C dX7_leastGreen_25 rfl rfl rfl ?_
        refine yr_ifnull_r 30 C dX7_leastGreen_27 rfl ?_
        refine yr_iload_n 31 C dX7_leastGreen_30 rfl rfl ?_
        refine yr_aload 33 C dX7_leastGreen_31 rfl rfl rfl ?_
        refine yr_get 36 C dX7_leastGreen_33 fl_X7_25 (rx3 hR hz) rfl rfl ?_
        refine yr_S2v 39 C (jc_max _ _ _) dX7_leastGreen_36 mt_J9_max_7cf53 ms_J9_max_7cf53 ml_X7_28 (Nat.le_of_ble_eq_true rfl) (Nat.le_of_ble_eq_true rfl) (Nat.le_of_ble_eq_true rfl) (Nat.le_of_ble_eq_true rfl) (Nat.le_of_ble_eq_true rfl) rfl (fun h e => ?_)
        subst e
        refine yr_istore1 40 C dX7_leastGreen_39 (by decide) rfl ?_
        refine yr_iinc4 43 C (1) dX7_leastGreen_40 rfl (by decide) rfl ?_
        rw [nI_1]
        refine yr_goto 13 C dX7_leastGreen_43 (by decide) ?_
        refine yr_forget5 ?_
        exact ih (i + 1) _ (by omega) (by rw [← he]; simp [m_leastL, m_leastS, ez, ix_nI (show z < 2 ^ 31 by omega), nI_pos (show z < 2 ^ 31 by omega), jmax_le]) h hR
  exact loop13 4 0 0 rfl rfl h hR
set_option maxHeartbeats 4000000 in
set_option maxRecDepth 100000 in
theorem xc_greatestGreen (g : Nat) (hg : g < N 1) (hB : mB S (N 0) (N 1) nd nr t) (h : yH) (hR : RX dA t0 (S) lf mc cap B N h) : yM (yZ t0 mi D dA) D yX7_greatestGreen cX7_greatestGreen 6 (some .int) 2 0 0 [.ref (B 6 g)] h (fun r h' => r = some (.int (jmax (m_greatL S g 4 0 120) (m_least S g))) ∧ RX dA t0 (S) lf mc cap B N h') := by
  refine yM_of (yZ_ok t0 mi D dA) (by decide) rfl (Nat.le_of_ble_eq_true rfl) ?_
  intro p l e s m args below meth c A C hr hin
  show yW p l e (yR 2 0 0) s m args below meth c 6 D A 0 0 _ 0 [some (.ref (B 6 g)), none, none, none, none, none] [] h
  have n0 : N 0 ≤ 8 := (show S 1 0 = nI (N 0) ∧ N 0 ≤ 8 from hB 0).2
  have n1 : N 1 ≤ 6 := (show S 17 0 = nI (N 1) ∧ N 1 ≤ 6 from hB 1).2
  refine yr_bipush 2 C (120) dX7_greatestGreen_0 rfl rfl ?_
  refine yr_istore1 3 C dX7_greatestGreen_2 (by decide) rfl ?_
  refine yr_aload_n 4 C dX7_greatestGreen_3 rfl rfl rfl ?_
  refine yr_get 7 C dX7_greatestGreen_4 fl_X7_11 (rx6 hR hg) rfl rfl ?_
  refine yr_astore2 8 C dX7_greatestGreen_7 rfl (by decide) rfl ?_
  refine yr_aload_n 9 C dX7_greatestGreen_8 rfl rfl rfl ?_
  refine yr_alen 10 4 C (4) dX7_greatestGreen_9 (rx7 hR hg) rfl rfl rfl ?_
  refine yr_istore3 11 C dX7_greatestGreen_10 (by decide) rfl ?_
  refine yr_iconst 12 C (0) dX7_greatestGreen_11 rfl rfl ?_
  refine yr_istore4 14 C dX7_greatestGreen_12 (by decide) rfl ?_
  have loop14 : ∀ (j i : Nat) (x : Int32), i + j = 4 → m_greatL S g j i x = m_greatL S g 4 0 120 → ∀ h : yH, RX dA t0 (S) lf mc cap B N h → yW p l e (yR 2 0 0) s m args below meth c 6 D A 0 0 (yF D A (fun r h' => r = some (.int (jmax (m_greatL S g 4 0 120) (m_least S g))) ∧ RX dA t0 (S) lf mc cap B N h') below args s 0 0) 14 [some (.ref (B 6 g)), some (.int x), some (.ref (B 7 g)), some (.int 4), some (.int (nI i)), none] [] h := by
    intro j
    induction j with
    | zero =>
      intro i x hij he h hR
      obtain rfl : i = 4 := by omega
      refine yr_iload 16 C dX7_greatestGreen_14 rfl rfl ?_
      refine yr_iload_n 17 C dX7_greatestGreen_16 rfl rfl ?_
      refine yr_icmp_ge 47 20 C  dX7_greatestGreen_17 (by decide) rfl (fun c17 => ?_) (fun c17 => ?_)
      rotate_left
      · exact absurd (by decide) c17
      refine yr_iload_n 48 C dX7_greatestGreen_47 rfl rfl ?_
      refine yr_aload_n 49 C dX7_greatestGreen_48 rfl rfl rfl ?_
      refine yr_V0v 52 C (xc_leastGreen _ (by assumption) hB _ hR) dX7_greatestGreen_49 mt_X7_leastGreen mv_X7_leastGreen ml_X7_40 (rx6 hR hg) rfl (Nat.le_of_ble_eq_true rfl) (Nat.le_of_ble_eq_true rfl) (Nat.le_of_ble_eq_true rfl) (Nat.le_of_ble_eq_true rfl) (Nat.le_of_ble_eq_true rfl) rfl (fun h hR => ?_)
      refine yr_S2v 55 C (jc_max _ _ _) dX7_greatestGreen_52 mt_J9_max_7cf53 ms_J9_max_7cf53 ml_X7_28 (Nat.le_of_ble_eq_true rfl) (Nat.le_of_ble_eq_true rfl) (Nat.le_of_ble_eq_true rfl) (Nat.le_of_ble_eq_true rfl) (Nat.le_of_ble_eq_true rfl) rfl (fun h e => ?_)
      subst e
      refine yr_iret C dX7_greatestGreen_55 hr (Nat.le_of_ble_eq_true rfl) (Nat.le_of_ble_eq_true rfl) ?_
      refine ⟨?_, hR⟩
      rw [← he]
      rfl
    | succ j ih =>
      intro i x hij he h hR
      have q7 : cO (S 18 (4 * g + i)) (N 0) := (show ∀ s, s < N 1 → ∀ k, k < 4 → cO (S 18 (4 * s + k)) (N 0) from hB 7) g hg i (by omega)
      refine yr_iload 16 C dX7_greatestGreen_14 rfl rfl ?_
      refine yr_iload_n 17 C dX7_greatestGreen_16 rfl rfl ?_
      refine yr_icmp_ge 47 20 C  dX7_greatestGreen_17 (by decide) rfl (fun c17 => ?_) (fun c17 => ?_)
      · exact absurd c17 (nI_ge (b := 4) (by omega) (by decide))
      refine yr_aload_n 21 C dX7_greatestGreen_20 rfl rfl rfl ?_
      refine yr_iload 23 C dX7_greatestGreen_21 rfl rfl ?_
      refine xx_place 24 C hR hg (by omega) n0 q7 dX7_greatestGreen_23 rfl (fun en => ?_) (fun z hz ez => ?_)
      · refine yr_astore5 26 C dX7_greatestGreen_24 rfl (by decide) rfl ?_
        refine yr_aload 28 C dX7_greatestGreen_26 rfl rfl rfl ?_
        refine yr_ifnull_n 41 C dX7_greatestGreen_28 (by decide) ?_
        refine yr_iinc4 44 C (1) dX7_greatestGreen_41 rfl (by decide) rfl ?_
        rw [nI_1]
        refine yr_goto 14 C dX7_greatestGreen_44 (by decide) ?_
        refine yr_forget5 ?_
        exact ih (i + 1) _ (by omega) (by rw [← he]; simp [m_greatL, m_greatS, en]) h hR
      · refine yr_astore5 26 C dX7_greatestGreen_24 rfl (by decide) rfl ?_
        refine yr_aload 28 C dX7_greatestGreen_26 rfl rfl rfl ?_
        refine yr_ifnull_r 31 C dX7_greatestGreen_28 rfl ?_
        refine yr_iload_n 32 C dX7_greatestGreen_31 rfl rfl ?_
        refine yr_aload 34 C dX7_greatestGreen_32 rfl rfl rfl ?_
        refine yr_get 37 C dX7_greatestGreen_34 fl_X7_34 (rx3 hR hz) rfl rfl ?_
        refine yr_S2v 40 C (jc_min _ _ _) dX7_greatestGreen_37 mt_J9_min_7cf53 ms_J9_min_7cf53 ml_X7_37 (Nat.le_of_ble_eq_true rfl) (Nat.le_of_ble_eq_true rfl) (Nat.le_of_ble_eq_true rfl) (Nat.le_of_ble_eq_true rfl) (Nat.le_of_ble_eq_true rfl) rfl (fun h e => ?_)
        subst e
        refine yr_istore1 41 C dX7_greatestGreen_40 (by decide) rfl ?_
        refine yr_iinc4 44 C (1) dX7_greatestGreen_41 rfl (by decide) rfl ?_
        rw [nI_1]
        refine yr_goto 14 C dX7_greatestGreen_44 (by decide) ?_
        refine yr_forget5 ?_
        exact ih (i + 1) _ (by omega) (by rw [← he]; simp [m_greatL, m_greatS, ez, ix_nI (show z < 2 ^ 31 by omega), nI_pos (show z < 2 ^ 31 by omega), jmin_le]) h hR
  exact loop14 4 0 120 rfl rfl h hR
end X5
