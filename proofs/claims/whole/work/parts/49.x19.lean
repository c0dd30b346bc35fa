/-! bound -/
def x_tgL (S : yS) : Nat → Nat → Int32 → Int32
  | 0, _, x => x
  | j + 1, i, x => x_tgL S j (i + 1) (x + m_great S i)
theorem tgL_add (S : yS) : ∀ (j i : Nat) (x y : Int32), x_tgL S j i (x + y) = x_tgL S j i x + y
  | 0, _, _, _ => rfl
  | j + 1, i, x, y => by
    show x_tgL S j (i + 1) (x + y + m_great S i) = x_tgL S j (i + 1) (x + m_great S i) + y
    rw [Int32.add_assoc, Int32.add_comm y, ← Int32.add_assoc, tgL_add S j (i + 1)]
theorem bdS_tg (S : yS) (a c : Int32) : ∀ (j i : Nat) (x : Int32), m_bdS S a c j i x = x_tgL S j i x + nI j * (a + c)
  | 0, _, x => by
    show x = x + nI 0 * (a + c)
    rw [nI_0, Int32.zero_mul, Int32.add_zero]
  | j + 1, i, x => by
    show m_bdS S a c j (i + 1) (x + (m_great S i + a + c)) = x_tgL S j (i + 1) (x + m_great S i) + nI (j + 1) * (a + c)
    rw [bdS_tg S a c j (i + 1), ← nI_1, Int32.add_mul, Int32.one_mul, Int32.add_assoc (m_great S i) a c, ← Int32.add_assoc x, tgL_add, Int32.add_assoc, Int32.add_comm (a + c)]
def m_bdX (S : yS) : Nat → Nat → Int32 → Int32 → Int32 × Int32
  | 0, _, a, c => (a, c)
  | j + 1, i, a, c => m_bdX S j (i + 1) (jmax a (S 13 i)) (jmax c (m_clL S i 8 0 0))
/-- the greatest clearing, as a number: j places of a phase's row from i on -/
def bx (S : yS) (p : Nat) : Nat → Nat → Nat → Nat
  | 0, _, x => x
  | j + 1, i, x => bx S p j (i + 1) (max x (ix (S 16 (8 * p + i)) - 1))
theorem bx_max (S : yS) (p : Nat) : ∀ (j i x y : Nat), bx S p j i (max x y) = max x (bx S p j i y)
  | 0, _, _, _ => rfl
  | j + 1, i, x, y => by
    show bx S p j (i + 1) (max (max x y) _) = max x (bx S p j (i + 1) (max y _))
    rw [Nat.max_assoc, bx_max S p j (i + 1)]
theorem jmax_nI {a b : Nat} (ha : a < 2 ^ 31) (hb : b < 2 ^ 31) : jmax (nI a) (nI b) = nI (max a b) := by
  unfold jmax
  by_cases c : a < b
  · rw [if_pos (nI_lt c hb), Nat.max_eq_right (by omega)]
  · rw [if_neg (nI_nlt (by omega) ha), Nat.max_eq_left (by omega)]
/-- a row of clearings: each is 0 or one more than the seconds -/
def cRow (S : yS) (p : Nat) : Prop := ∀ q, q < 8 → ∃ c, c ≤ 21 ∧ S 16 (8 * p + q) = nI c
theorem bx_lt {S : yS} {p : Nat} (h : cRow S p) : ∀ (j i x : Nat), i + j ≤ 8 → x < 2 ^ 20 → bx S p j i x < 2 ^ 20
  | 0, _, _, _, hx => hx
  | j + 1, i, x, hij, hx => by
    obtain ⟨c, hc, e⟩ := h i (by omega)
    refine bx_lt h j (i + 1) _ (by omega) ?_
    rw [e, ix_nI (by omega)]
    omega
theorem clL_bx {S : yS} {p : Nat} (h : cRow S p) : ∀ (j i x : Nat), i + j ≤ 8 → x < 2 ^ 20 → m_clL S p j i (nI x) = nI (bx S p j i x)
  | 0, _, _, _, _ => rfl
  | j + 1, i, x, hij, hx => by
    obtain ⟨c, hc, e⟩ := h i (by omega)
    have q : jmax (nI x) (xCl S p i) = nI (max x (ix (S 16 (8 * p + i)) - 1)) := by
      unfold xCl
      rw [e, ix_nI (by omega)]
      by_cases z : c = 0
      · subst z
        rw [if_neg (by decide), Nat.zero_sub, Nat.max_zero]
        unfold jmax
        rw [if_neg]
        intro y
        have y2 : nI x < 0 := Int32.lt_trans y (by decide)
        exact nI_pos (by omega) y2
      · rw [if_pos (show (0 : Int32) < nI c from nI_lt (a := 0) (by omega) (by omega)), show nI c - 1 = nI (c - 1) from pk_sub (b := 1) (by omega), jmax_nI (by omega) (by omega)]
    show m_clL S p j (i + 1) (jmax (nI x) (xCl S p i)) = nI (bx S p j (i + 1) (max x _))
    rw [q]
    refine clL_bx h j (i + 1) _ (by omega) ?_
    rw [e, ix_nI (by omega)]
    omega
theorem bdI_bx {S : yS} {p : Nat} (h : cRow S p) : ∀ (j i x : Nat), i + j ≤ 8 → x < 2 ^ 20 → m_bdI S p j i (nI x) = nI (bx S p j i x)
  | 0, _, _, _, _ => rfl
  | j + 1, i, x, hij, hx => by
    obtain ⟨c, hc, e⟩ := h i (by omega)
    have q : (if S 16 (8 * p + i) - 1 ≤ nI x then nI x else S 16 (8 * p + i) - 1) = nI (max x (ix (S 16 (8 * p + i)) - 1)) := by
      rw [e, ix_nI (by omega)]
      by_cases z : c = 0
      · subst z
        rw [if_pos, Nat.zero_sub, Nat.max_zero]
        exact Int32.le_trans (show nI 0 - 1 ≤ 0 by decide) (nI_pos' (by omega))
      · rw [show nI c - 1 = nI (c - 1) from pk_sub (b := 1) (by omega)]
        by_cases y : c - 1 ≤ x
        · rw [if_pos (nI_le y (by omega)), Nat.max_eq_left y]
        · rw [if_neg (nI_ge (by omega) (by omega)), Nat.max_eq_right (by omega)]
    show m_bdI S p j (i + 1) (if S 16 (8 * p + i) - 1 ≤ nI x then nI x else S 16 (8 * p + i) - 1) = nI (bx S p j (i + 1) (max x _))
    rw [q]
    refine bdI_bx h j (i + 1) _ (by omega) ?_
    rw [e, ix_nI (by omega)]
    omega
theorem bx_rest {S : yS} {p : Nat} : ∀ (j i x : Nat), (∀ q, i ≤ q → q < i + j → S 16 (8 * p + q) = 0) → bx S p j i x = x
  | 0, _, _, _ => rfl
  | j + 1, i, x, h => by
    show bx S p j (i + 1) (max x _) = x
    rw [h i (Nat.le_refl i) (by omega), show ix 0 - 1 = 0 from rfl, Nat.max_zero]
    exact bx_rest j (i + 1) x (fun q h1 h2 => h q (by omega) (by omega))
theorem bx_split (S : yS) (p : Nat) : ∀ (a b i x : Nat), bx S p (a + b) i x = bx S p b (i + a) (bx S p a i x)
  | 0, b, i, x => by rw [Nat.zero_add]; rfl
  | a + 1, b, i, x => by
    rw [show a + 1 + b = (a + b) + 1 by omega]
    show bx S p (a + b) (i + 1) (max x _) = bx S p b (i + (a + 1)) (bx S p a (i + 1) (max x _))
    rw [bx_split S p a b (i + 1), show i + 1 + a = i + (a + 1) by omega]
theorem bdO_X {S : yS} {np : Nat} (hn : np ≤ 8) (h21 : ∀ p, p < 8 → ∀ q, q < 8 → ∃ c, c ≤ 21 ∧ S 16 (8 * p + q) = nI c ∧ (p = q → c = 0) ∧ (np ≤ p → c = 0) ∧ (np ≤ q → c = 0)) : ∀ (j i : Nat) (a : Int32) (c : Nat), i + j = np → c < 2 ^ 20 → m_bdO S np j i a (nI c) = m_bdX S j i a (nI c)
  | 0, _, _, _, _, _ => rfl
  | j + 1, i, a, c, hij, hc => by
    have hr : cRow S i := fun q hq => by
      obtain ⟨c, h1, h2, _⟩ := h21 i (by omega) q hq
      exact ⟨c, h1, h2⟩
    have e8 : bx S i 8 0 c = bx S i np 0 c := by
      rw [show (8 : Nat) = np + (8 - np) by omega, bx_split S i np (8 - np) 0 c]
      refine bx_rest (8 - np) (0 + np) _ (fun q h1 h2 => ?_)
      obtain ⟨c, _, h3, _, _, h4⟩ := h21 i (by omega) q (by omega)
      rw [h3, h4 (by omega)]
      rfl
    have q1 : m_bdI S i np 0 (nI c) = nI (bx S i 8 0 c) := by rw [bdI_bx hr np 0 c (by omega) hc, e8]
    have q2 : jmax (nI c) (m_clL S i 8 0 0) = nI (bx S i 8 0 c) := by
      rw [show (0 : Int32) = nI 0 from rfl, clL_bx hr 8 0 0 (by omega) (by omega), jmax_nI (by omega) (by have := bx_lt hr 8 0 0 (by omega) (by omega); omega), ← bx_max, Nat.max_zero]
    have q3 : (if S 13 i ≤ a then a else S 13 i) = jmax a (S 13 i) := by
      unfold jmax
      by_cases z : S 13 i ≤ a
      · rw [if_pos z, if_neg (Int32.not_lt.mpr z)]
      · rw [if_neg z, if_pos (Int32.not_le.mp z)]
    show m_bdO S np j (i + 1) (if S 13 i ≤ a then a else S 13 i) (m_bdI S i np 0 (nI c)) = m_bdX S j (i + 1) (jmax a (S 13 i)) (jmax (nI c) (m_clL S i 8 0 0))
    rw [q1, q2, q3]
    exact bdO_X hn h21 j (i + 1) _ _ (by omega) (bx_lt hr 8 0 c (by omega) hc)
theorem m_in_s {a : Int32} (h : m_in a 0 20 = true) : 0 < a + 1 := by
  obtain ⟨k, hk, rfl⟩ := m_in_3 (k := 20) (by decide) h
  rw [nI_1]
  exact nI_lt (a := 0) (by omega) (by omega)
section X19
variable {D : va_G} {dA : Nat → ClassId} {t0 mi : Nat} {S : yS} {lf mc : Nat → Int32} {cap : Nat → Nat} {B : Nat → Nat → Nat} {N : Nat → Nat}
variable {t : Nat}
set_option maxHeartbeats 4000000 in
set_option maxRecDepth 100000 in
theorem xc_addPlace1 (d z : Nat) (hd : d < N 2) (hz : z < 200) (ez : S 20 d = nI z) (h20 : ∀ i, i < N 2 → cO (S 20 i) 201) (u v : Int32) (hu : m_in u (-128) 127 = true) (hv : m_in v 0 10000 = true)  (h : yH) (hR : RX dA t0 (S) lf mc cap B N h) : yM (yZ t0 mi D dA) D yX1_addPlace cX1_addPlace 3 (some .boolean) 1 0 0 [.ref (B 8 d), .int u, .int v] h (fun r h' => r = some (.int 1) ∧ RX dA t0 (pasS S d z u v) lf mc cap B N h') := by
  refine yM_of (yZ_ok t0 mi D dA) (by decide) rfl (Nat.le_of_ble_eq_true rfl) ?_
  intro p l e s m args below meth c A C hr hin
  show yW p l e (yR 1 0 0) s m args below meth c 3 D A 0 0 _ 0 [some (.ref (B 8 d)), some (.int u), some (.int v)] [] h
  have hc0 : 0 ≤ S 20 d := by rw [ez]; exact nI_pos' (by omega)
  have hc : ¬ S 20 d < 0 := Int32.not_lt.mpr hc0
  refine yr_aload_n 1 C dX1_addPlace_0 rfl rfl rfl ?_
  refine yr_V0v 4 C (xc_isCutOff _ hd _ hR) dX1_addPlace_1 mt_X1_isCutOff mv_X1_isCutOff ml_X1_26 (rx8 hR hd hc) rfl (Nat.le_of_ble_eq_true rfl) (Nat.le_of_ble_eq_true rfl) (Nat.le_of_ble_eq_true rfl) (Nat.le_of_ble_eq_true rfl) (Nat.le_of_ble_eq_true rfl) rfl (fun h hR => ?_)
  refine yb_ne 17 7 C  dX1_addPlace_4 (by decide) rfl (fun c4 => ?_) (fun c4 => ?_)
  · exact absurd c4 (by simp [hc])
  refine yr_aload_n 8 C dX1_addPlace_7 rfl rfl rfl ?_
  refine yr_get 11 C dX1_addPlace_8 fl_X1_19 (rx8 hR hd hc) rfl rfl ?_
  rw [ez]
  refine yr_sipush 14 C (200) dX1_addPlace_11 rfl rfl ?_
  refine yr_icmp_lt 19 17 C  dX1_addPlace_14 (by decide) rfl (fun c14 => ?_) (fun c14 => ?_)
  rotate_left
  · exact absurd (show nI z < 200 from nI_lt (b := 200) hz (by decide)) c14
  have n89 : B 8 d ≠ B 9 d := fun q => by have := (hR.2.1 8 d 9 d hd ⟨hd, hc0⟩ q).1; omega
  have n810 : B 8 d ≠ B 10 d := fun q => by have := (hR.2.1 8 d 10 d hd ⟨hd, hc0⟩ q).1; omega
  have n109 : B 10 d ≠ B 9 d := fun q => by have := (hR.2.1 10 d 9 d ⟨hd, hc0⟩ ⟨hd, hc0⟩ q).1; omega
  have q8 : ∀ X, va_up h (B 9 d) X (B 8 d) = some (.inr (2, [.int (nI d), .ref (B 9 d), .ref (B 10 d), .int (S 20 d)])) := fun X => by rw [va_up_ne' _ _ n89]; exact rx8 hR hd hc
  have q10 : ∀ X, va_up h (B 9 d) X (B 10 d) = some (.inl (dA 2, 200, .inl (fun i => if i < ix (S 20 d) then S 22 (200 * d + i) else 0))) := fun X => by rw [va_up_ne' _ _ n109]; exact rx10 hR hd hc0
  have q8b : ∀ X Y, va_up (va_up h (B 9 d) X) (B 10 d) Y (B 8 d) = some (.inr (2, [.int (nI d), .ref (B 9 d), .ref (B 10 d), .int (S 20 d)])) := fun X Y => by rw [va_up_ne' _ _ n810]; exact q8 X
  refine yr_aload_n 20 C dX1_addPlace_19 rfl rfl rfl ?_
  refine yr_get 23 C dX1_addPlace_20 fl_X1_9 (rx8 hR hd hc) rfl rfl ?_
  refine yr_aload_n 24 C dX1_addPlace_23 rfl rfl rfl ?_
  refine yr_get 27 C dX1_addPlace_24 fl_X1_19 (rx8 hR hd hc) rfl rfl ?_
  rw [ez]
  refine yr_iload_n 28 C dX1_addPlace_27 rfl rfl ?_
  refine yr_i2b 29 C dX1_addPlace_28 rfl ?_
  rw [nar8 hu]
  refine yr_bast 30 C dX1_addPlace_29 (rx9 hR hd hc0) (vp_in_nI hz (by decide)) rfl ?_
  rw [vp_nar8, nar8 hu, show (nI z).toNatClampNeg = z from ix_nI (by omega)]
  refine yr_aload_n 31 C dX1_addPlace_30 rfl rfl rfl ?_
  refine yr_get 34 C dX1_addPlace_31 fl_X1_15 (q8 _) rfl rfl ?_
  refine yr_aload_n 35 C dX1_addPlace_34 rfl rfl rfl ?_
  refine yr_get 38 C dX1_addPlace_35 fl_X1_19 (q8 _) rfl rfl ?_
  rw [ez]
  refine yr_iload_n 39 C dX1_addPlace_38 rfl rfl ?_
  refine yr_i2s 40 C dX1_addPlace_39 rfl ?_
  rw [nar16 hv]
  refine yr_sast 41 C dX1_addPlace_40 (q10 _) (vp_in_nI hz (by decide)) rfl ?_
  rw [vp_nar16, nar16 hv, show (nI z).toNatClampNeg = z from ix_nI (by omega)]
  refine yr_aload_n 42 C dX1_addPlace_41 rfl rfl rfl ?_
  refine yr_dup 43 C dX1_addPlace_42 rfl rfl ?_
  refine yr_get 46 C dX1_addPlace_43 fl_X1_19 (q8b _ _) rfl rfl ?_
  rw [ez]
  refine yr_iconst 47 C (1) dX1_addPlace_46 rfl rfl ?_
  refine yr_iadd 48 C dX1_addPlace_47 rfl ?_
  refine yr_put 51 C dX1_addPlace_48 fp_X1_19 (q8b _ _) (Nat.le_of_ble_eq_true rfl) rfl rfl rfl ?_
  refine yr_iconst 52 C (1) dX1_addPlace_51 rfl rfl ?_
  refine yr_zret C dX1_addPlace_52 hr ?_ (Nat.le_of_ble_eq_true rfl) (Nat.le_of_ble_eq_true rfl) ?_
  · first | exact bI_or _ | exact Or.inl rfl | exact Or.inr rfl
  refine ⟨rfl, ?_⟩
  have q := RX_pass hR hd hz ez h20 u v
  rw [ez] at q
  exact q
set_option maxHeartbeats 4000000 in
set_option maxRecDepth 100000 in
theorem xc_addPlace0 (d : Nat) (hd : d < N 2) (ez : S 20 d = nI 200) (u v : Int32)  (h : yH) (hR : RX dA t0 (S) lf mc cap B N h) : yM (yZ t0 mi D dA) D yX1_addPlace cX1_addPlace 3 (some .boolean) 1 0 0 [.ref (B 8 d), .int u, .int v] h (fun r h' => r = some (.int 0) ∧ RX dA t0 (S) lf mc cap B N h') := by
  refine yM_of (yZ_ok t0 mi D dA) (by decide) rfl (Nat.le_of_ble_eq_true rfl) ?_
  intro p l e s m args below meth c A C hr hin
  show yW p l e (yR 1 0 0) s m args below meth c 3 D A 0 0 _ 0 [some (.ref (B 8 d)), some (.int u), some (.int v)] [] h
  have hc0 : 0 ≤ S 20 d := by rw [ez]; exact nI_pos' (by omega)
  have hc : ¬ S 20 d < 0 := Int32.not_lt.mpr hc0
  refine yr_aload_n 1 C dX1_addPlace_0 rfl rfl rfl ?_
  refine yr_V0v 4 C (xc_isCutOff _ hd _ hR) dX1_addPlace_1 mt_X1_isCutOff mv_X1_isCutOff ml_X1_26 (rx8 hR hd hc) rfl (Nat.le_of_ble_eq_true rfl) (Nat.le_of_ble_eq_true rfl) (Nat.le_of_ble_eq_true rfl) (Nat.le_of_ble_eq_true rfl) (Nat.le_of_ble_eq_true rfl) rfl (fun h hR => ?_)
  refine yb_ne 17 7 C  dX1_addPlace_4 (by decide) rfl (fun c4 => ?_) (fun c4 => ?_)
  · exact absurd c4 (by simp [hc])
  refine yr_aload_n 8 C dX1_addPlace_7 rfl rfl rfl ?_
  refine yr_get 11 C dX1_addPlace_8 fl_X1_19 (rx8 hR hd hc) rfl rfl ?_
  rw [ez]
  refine yr_sipush 14 C (200) dX1_addPlace_11 rfl rfl ?_
  refine yr_icmp_lt 19 17 C  dX1_addPlace_14 (by decide) rfl (fun c14 => ?_) (fun c14 => ?_)
  · exact absurd c14 (show ¬ nI 200 < nI 200 from nI_nlt (Nat.le_refl 200) (by decide))
  refine yr_iconst 18 C (0) dX1_addPlace_17 rfl rfl ?_
  refine yr_zret C dX1_addPlace_18 hr ?_ (Nat.le_of_ble_eq_true rfl) (Nat.le_of_ble_eq_true rfl) ?_
  · first | exact bI_or _ | exact Or.inl rfl | exact Or.inr rfl
  exact ⟨rfl, hR⟩
theorem xc_addPlace (d z : Nat) (hd : d < N 2) (hz : z ≤ 200) (ez : S 20 d = nI z) (h20 : ∀ i, i < N 2 → cO (S 20 i) 201) (u v : Int32) (hu : m_in u (-128) 127 = true) (hv : m_in v 0 10000 = true) (h : yH) (hR : RX dA t0 S lf mc cap B N h) : yM (yZ t0 mi D dA) D yX1_addPlace cX1_addPlace 3 (some .boolean) 1 0 0 [.ref (B 8 d), .int u, .int v] h (fun r h' => r = some (.int (bI (decide (z < 200)))) ∧ RX dA t0 (if z < 200 then pasS S d z u v else S) lf mc cap B N h') := by
  by_cases c : z < 200
  · rw [if_pos c, decide_eq_true c]
    exact xc_addPlace1 d z hd c ez h20 u v hu hv h hR
  · have : z = 200 := by omega
    subst this
    rw [if_neg c, decide_eq_false c]
    exact xc_addPlace0 d hd ez u v h hR
set_option maxHeartbeats 4000000 in
set_option maxRecDepth 100000 in
theorem xc_passing (q u v : Int32) (hI : mI S (N 0) (N 1) (N 2) (N 3) (N 4) t) (ht : t < 2 ^ 20) (hlf : lf = S 5) (h : yH) (hR : RX dA t0 (S) lf mc cap B N h) : yM (yZ t0 mi D dA) D yX8_passing cX8_passing 5 (some .int) 4 0 0 [.ref (B 0 0), .int q, .int u, .int v] h (fun r h' => r = some (.int (sp_passing S q u v).1) ∧ RX dA t0 ((sp_passing S q u v).2) lf mc cap B N h') := by
  refine yM_of (yZ_ok t0 mi D dA) (by decide) rfl (Nat.le_of_ble_eq_true rfl) ?_
  intro p l e s m args below meth c A C hr hin
  show yW p l e (yR 4 0 0) s m args below meth c 5 D A 0 0 _ 0 [some (.ref (B 0 0)), some (.int q), some (.int u), some (.int v), none] [] h
  have h0 : S 1 0 = nI (N 0) ∧ N 0 ≤ 8 := hI 0
  have h1 : S 17 0 = nI (N 1) ∧ N 1 ≤ 6 := hI 1
  have h2 : S 19 0 = nI (N 2) ∧ N 2 ≤ 12 := hI 2
  have h5 : S 0 0 = nI t := hI 5
  have hB := mB_of_mI hI ht
  refine yr_aload_n 1 C dX8_passing_0 rfl rfl rfl ?_
  refine yr_iload_n 2 C dX8_passing_1 rfl rfl ?_
  refine yr_V1v 5 C (xc_detectorAt _ h2 _ hR) dX8_passing_2 mt_X8_detectorAt mv_X8_detectorAt ml_X8_136 (rx0 hR) rfl (Nat.le_of_ble_eq_true rfl) (Nat.le_of_ble_eq_true rfl) (Nat.le_of_ble_eq_true rfl) (Nat.le_of_ble_eq_true rfl) (Nat.le_of_ble_eq_true rfl) rfl (fun h hR => ?_)
  rcases dt_cases (B := B) hI q with ⟨e1, e2⟩ | ⟨j, hj, rfl, e1, e2⟩
  · rw [e2]
    refine yr_astore4 7 C dX8_passing_5 rfl (by decide) rfl ?_
    refine yr_aload 9 C dX8_passing_7 rfl rfl rfl ?_
    refine yr_ifnonnull_n 12 C dX8_passing_9 rfl ?_
    refine yr_iconst 13 C (-1) dX8_passing_12 rfl rfl ?_
    refine yr_iret C dX8_passing_13 hr (Nat.le_of_ble_eq_true rfl) (Nat.le_of_ble_eq_true rfl) ?_
    exact ⟨by simp [sp_passing, e1], by simpa [sp_passing, e1] using hR⟩
  · rw [e2]
    have ej : ix (nI j) = j := ix_nI (by omega)
    refine yr_astore4 7 C dX8_passing_5 rfl (by decide) rfl ?_
    refine yr_aload 9 C dX8_passing_7 rfl rfl rfl ?_
    refine yr_ifnonnull_r 14 C dX8_passing_9 (by decide) ?_
    refine yr_iload_n 15 C dX8_passing_14 rfl rfl ?_
    refine yr_bipush 17 C (-128) dX8_passing_15 rfl rfl ?_
    refine yr_bipush 19 C (127) dX8_passing_17 rfl rfl ?_
    refine yr_S3v 22 C (xc_isWithin _ _ _ _ hR) dX8_passing_19 mt_X8_isWithin ms_X8_isWithin ml_X8_95 (Nat.le_of_ble_eq_true rfl) (Nat.le_of_ble_eq_true rfl) (Nat.le_of_ble_eq_true rfl) (Nat.le_of_ble_eq_true rfl) (Nat.le_of_ble_eq_true rfl) rfl (fun h e => ?_)
    subst e
    refine yb_ne 27 25 C  dX8_passing_22 (by decide) rfl (fun c22 => ?_) (fun c22 => ?_)
    · refine yr_iload_n 28 C dX8_passing_27 rfl rfl ?_
      refine yr_iconst 29 C (0) dX8_passing_28 rfl rfl ?_
      refine yr_sipush 32 C (10000) dX8_passing_29 rfl rfl ?_
      refine yr_S3v 35 C (xc_isWithin _ _ _ _ hR) dX8_passing_32 mt_X8_isWithin ms_X8_isWithin ml_X8_95 (Nat.le_of_ble_eq_true rfl) (Nat.le_of_ble_eq_true rfl) (Nat.le_of_ble_eq_true rfl) (Nat.le_of_ble_eq_true rfl) (Nat.le_of_ble_eq_true rfl) rfl (fun h e => ?_)
      subst e
      refine yb_ne 40 38 C  dX8_passing_35 (by decide) rfl (fun c35 => ?_) (fun c35 => ?_)
      · refine yr_aload 42 C dX8_passing_40 rfl rfl rfl ?_
        refine yr_V0v 45 C (xc_isCutOff _ hj _ hR) dX8_passing_42 mt_X1_isCutOff mv_X1_isCutOff ml_X8_140 (hR.1 8 j hj) rfl (Nat.le_of_ble_eq_true rfl) (Nat.le_of_ble_eq_true rfl) (Nat.le_of_ble_eq_true rfl) (Nat.le_of_ble_eq_true rfl) (Nat.le_of_ble_eq_true rfl) rfl (fun h hR => ?_)
        refine yb_eq 51 48 C  dX8_passing_45 (by decide) rfl (fun c45 => ?_) (fun c45 => ?_)
        · have hc : ¬ S 20 j < 0 := of_decide_eq_false c45
          have h20 : ∀ i, i < N 2 → cO (S 20 i) 201 := hI 8
          have hc0 : 0 ≤ S 20 j := Int32.not_lt.mp hc
          obtain ⟨z, hz, ez⟩ : ∃ z, z < 201 ∧ S 20 j = nI z := by
            rcases h20 j hj with q | q
            · rw [q] at hc0
              exact absurd hc0 (by decide)
            · exact q
          refine yr_aload 53 C dX8_passing_51 rfl rfl rfl ?_
          refine yr_iload_n 54 C dX8_passing_53 rfl rfl ?_
          refine yr_iload_n 55 C dX8_passing_54 rfl rfl ?_
          refine yr_V2v 58 C (xc_addPlace j z hj (by omega) ez h20 u v c22 c35 _ hR) dX8_passing_55 mt_X1_addPlace mv_X1_addPlace ml_X8_146 (rx8 hR hj hc) rfl (Nat.le_of_ble_eq_true rfl) (Nat.le_of_ble_eq_true rfl) (Nat.le_of_ble_eq_true rfl) (Nat.le_of_ble_eq_true rfl) (Nat.le_of_ble_eq_true rfl) rfl (fun h hR => ?_)
          refine yb_eq 69 61 C  dX8_passing_58 (by decide) rfl (fun c58 => ?_) (fun c58 => ?_)
          · refine yr_bipush 71 C (-2) dX8_passing_69 rfl rfl ?_
            refine yr_iret C dX8_passing_71 hr (Nat.le_of_ble_eq_true rfl) (Nat.le_of_ble_eq_true rfl) ?_
            have hz2 : ¬ z < 200 := of_decide_eq_false c58
            have zz : z = 200 := by omega
            subst zz
            rw [if_neg hz2] at hR
            have a2 : nI 200 = 200 := rfl
            have a3 : 0 ≤ nI 200 := nI_pos' (by decide)
            exact ⟨by simp [sp_passing, e1, c22, c35, ej, ez, a2], by simpa [sp_passing, e1, c22, c35, ej, ez, a2] using hR⟩
          · have hz2 : z < 200 := of_decide_eq_true c58
            rw [if_pos hz2] at hR
            have s20 : pasS S j z u v 20 j = nI (z + 1) := by unfold pasS; rw [mset_same, nI_1]
            have hc2 : ¬ pasS S j z u v 20 j < 0 := by rw [s20]; exact nI_pos (by omega)
            refine yr_aload 63 C dX8_passing_61 rfl rfl rfl ?_
            refine yr_get 66 C dX8_passing_63 fl_X8_150 (rx8 hR hj hc2) rfl rfl ?_
            rw [s20]
            refine yr_goto 71 C dX8_passing_66 (by decide) ?_
            refine yr_iret C dX8_passing_71 hr (Nat.le_of_ble_eq_true rfl) (Nat.le_of_ble_eq_true rfl) ?_
            have a2 : ¬ nI z = 200 := fun q => by
              have := nI_inj (b := 200) (by omega) (by omega) q
              omega
            have a3 : 0 ≤ nI z := by rw [← ez]; exact hc0
            have iz : ix (nI z) = z := ix_nI (by omega)
            exact ⟨by simp [sp_passing, e1, c22, c35, ej, ez, a2, a3, nI_1], by simpa [sp_passing, e1, c22, c35, ej, ez, a2, a3, iz, pasS] using hR⟩
        · refine yr_bipush 50 C (-3) dX8_passing_48 rfl rfl ?_
          refine yr_iret C dX8_passing_50 hr (Nat.le_of_ble_eq_true rfl) (Nat.le_of_ble_eq_true rfl) ?_
          have a1 : ¬ 0 ≤ S 20 j := Int32.not_le.mpr (of_decide_eq_true c45)
          exact ⟨by simp [sp_passing, e1, c22, c35, ej, a1], by simpa [sp_passing, e1, c22, c35, ej, a1] using hR⟩
      · refine yr_iconst 39 C (-1) dX8_passing_38 rfl rfl ?_
        refine yr_iret C dX8_passing_39 hr (Nat.le_of_ble_eq_true rfl) (Nat.le_of_ble_eq_true rfl) ?_
        exact ⟨by simp [sp_passing, e1, c22, c35], by simpa [sp_passing, e1, c22, c35] using hR⟩
    · refine yr_iconst 26 C (-1) dX8_passing_25 rfl rfl ?_
      refine yr_iret C dX8_passing_26 hr (Nat.le_of_ble_eq_true rfl) (Nat.le_of_ble_eq_true rfl) ?_
      exact ⟨by simp [sp_passing, e1, c22], by simpa [sp_passing, e1, c22] using hR⟩
set_option maxHeartbeats 4000000 in
set_option maxRecDepth 100000 in
theorem xc_conflict (q w a b : Int32) (hI : mI S (N 0) (N 1) (N 2) (N 3) (N 4) t) (ht : t < 2 ^ 20) (hlf : lf = S 5) (h : yH) (hR : RX dA t0 (S) lf mc cap B N h) : yM (yZ t0 mi D dA) D yX8_conflict cX8_conflict 9 (some .int) 4 0 0 [.ref (B 0 0), .int q, .int w, .int a, .int b] h (fun r h' => r = some (.int (sp_conflict S q w a b).1) ∧ RX dA t0 ((sp_conflict S q w a b).2) lf mc cap B N h') := by
  refine yM_of (yZ_ok t0 mi D dA) (by decide) rfl (Nat.le_of_ble_eq_true rfl) ?_
  intro p l e s m args below meth c A C hr hin
  show yW p l e (yR 4 0 0) s m args below meth c 9 D A 0 0 _ 0 [some (.ref (B 0 0)), some (.int q), some (.int w), some (.int a), some (.int b), none, none, none, none] [] h
  have h0 : S 1 0 = nI (N 0) ∧ N 0 ≤ 8 := hI 0
  have h1 : S 17 0 = nI (N 1) ∧ N 1 ≤ 6 := hI 1
  have h2 : S 19 0 = nI (N 2) ∧ N 2 ≤ 12 := hI 2
  have h5 : S 0 0 = nI t := hI 5
  have hB := mB_of_mI hI ht
  have es : ix (S 17 0) = N 1 := by rw [h1.1]; exact ix_nI (by omega)
  refine yr_aload_n 1 C dX8_conflict_0 rfl rfl rfl ?_
  refine yr_iload_n 2 C dX8_conflict_1 rfl rfl ?_
  refine yr_V1v 5 C (xc_phaseAt _ h0 _ hR) dX8_conflict_2 mt_X8_phaseAt mv_X8_phaseAt ml_X8_91 (rx0 hR) rfl (Nat.le_of_ble_eq_true rfl) (Nat.le_of_ble_eq_true rfl) (Nat.le_of_ble_eq_true rfl) (Nat.le_of_ble_eq_true rfl) (Nat.le_of_ble_eq_true rfl) rfl (fun h hR => ?_)
  rcases ph_cases (B := B) hI q with ⟨e1, e2⟩ | ⟨j, hj, rfl, e1, e2⟩
  · rw [e2]
    refine yr_astore5 7 C dX8_conflict_5 rfl (by decide) rfl ?_
    refine yr_aload_n 8 C dX8_conflict_7 rfl rfl rfl ?_
    refine yr_iload_n 9 C dX8_conflict_8 rfl rfl ?_
    refine yr_V1v 12 C (xc_phaseAt _ h0 _ hR) dX8_conflict_9 mt_X8_phaseAt mv_X8_phaseAt ml_X8_91 (rx0 hR) rfl (Nat.le_of_ble_eq_true rfl) (Nat.le_of_ble_eq_true rfl) (Nat.le_of_ble_eq_true rfl) (Nat.le_of_ble_eq_true rfl) (Nat.le_of_ble_eq_true rfl) rfl (fun h hR => ?_)
    rcases ph_cases (B := B) hI w with ⟨f1, f2⟩ | ⟨k, hk, rfl, f1, f2⟩
    · rw [f2]
      refine yr_astore6 14 C dX8_conflict_12 rfl (by decide) rfl ?_
      refine yr_aload 16 C dX8_conflict_14 rfl rfl rfl ?_
      refine yr_ifnull_n 31 C dX8_conflict_16 (by decide) ?_
      refine yr_iconst 32 C (-1) dX8_conflict_31 rfl rfl ?_
      refine yr_iret C dX8_conflict_32 hr (Nat.le_of_ble_eq_true rfl) (Nat.le_of_ble_eq_true rfl) ?_
      exact ⟨by simp [sp_conflict, e1], by simpa [sp_conflict, e1] using hR⟩
    · rw [f2]
      have ek : ix (nI k) = k := ix_nI (by omega)
      refine yr_astore6 14 C dX8_conflict_12 rfl (by decide) rfl ?_
      refine yr_aload 16 C dX8_conflict_14 rfl rfl rfl ?_
      refine yr_ifnull_n 31 C dX8_conflict_16 (by decide) ?_
      refine yr_iconst 32 C (-1) dX8_conflict_31 rfl rfl ?_
      refine yr_iret C dX8_conflict_32 hr (Nat.le_of_ble_eq_true rfl) (Nat.le_of_ble_eq_true rfl) ?_
      exact ⟨by simp [sp_conflict, e1], by simpa [sp_conflict, e1] using hR⟩
  · rw [e2]
    have ej : ix (nI j) = j := ix_nI (by omega)
    refine yr_astore5 7 C dX8_conflict_5 rfl (by decide) rfl ?_
    refine yr_aload_n 8 C dX8_conflict_7 rfl rfl rfl ?_
    refine yr_iload_n 9 C dX8_conflict_8 rfl rfl ?_
    refine yr_V1v 12 C (xc_phaseAt _ h0 _ hR) dX8_conflict_9 mt_X8_phaseAt mv_X8_phaseAt ml_X8_91 (rx0 hR) rfl (Nat.le_of_ble_eq_true rfl) (Nat.le_of_ble_eq_true rfl) (Nat.le_of_ble_eq_true rfl) (Nat.le_of_ble_eq_true rfl) (Nat.le_of_ble_eq_true rfl) rfl (fun h hR => ?_)
    rcases ph_cases (B := B) hI w with ⟨f1, f2⟩ | ⟨k, hk, rfl, f1, f2⟩
    · rw [f2]
      refine yr_astore6 14 C dX8_conflict_12 rfl (by decide) rfl ?_
      refine yr_aload 16 C dX8_conflict_14 rfl rfl rfl ?_
      refine yr_ifnull_r 19 C dX8_conflict_16 rfl ?_
      refine yr_aload 21 C dX8_conflict_19 rfl rfl rfl ?_
      refine yr_ifnull_n 31 C dX8_conflict_21 (by decide) ?_
      refine yr_iconst 32 C (-1) dX8_conflict_31 rfl rfl ?_
      refine yr_iret C dX8_conflict_32 hr (Nat.le_of_ble_eq_true rfl) (Nat.le_of_ble_eq_true rfl) ?_
      exact ⟨by simp [sp_conflict, e1, f1], by simpa [sp_conflict, e1, f1] using hR⟩
    · rw [f2]
      have ek : ix (nI k) = k := ix_nI (by omega)
      refine yr_astore6 14 C dX8_conflict_12 rfl (by decide) rfl ?_
      refine yr_aload 16 C dX8_conflict_14 rfl rfl rfl ?_
      refine yr_ifnull_r 19 C dX8_conflict_16 rfl ?_
      refine yr_aload 21 C dX8_conflict_19 rfl rfl rfl ?_
      refine yr_ifnull_r 24 C dX8_conflict_21 rfl ?_
      refine yr_aload 26 C dX8_conflict_24 rfl rfl rfl ?_
      refine yr_aload 28 C dX8_conflict_26 rfl rfl rfl ?_
      refine yr_acmp_ne 33 31 C (x := some (B 3 j)) (y := some (B 3 k)) dX8_conflict_28 (by decide) rfl (fun c28 => ?_) (fun c28 => ?_)
      · refine yr_iload_n 34 C dX8_conflict_33 rfl rfl ?_
        refine yr_iconst 35 C (0) dX8_conflict_34 rfl rfl ?_
        refine yr_bipush 37 C (20) dX8_conflict_35 rfl rfl ?_
        refine yr_S3v 40 C (xc_isWithin _ _ _ _ hR) dX8_conflict_37 mt_X8_isWithin ms_X8_isWithin ml_X8_95 (Nat.le_of_ble_eq_true rfl) (Nat.le_of_ble_eq_true rfl) (Nat.le_of_ble_eq_true rfl) (Nat.le_of_ble_eq_true rfl) (Nat.le_of_ble_eq_true rfl) rfl (fun h e => ?_)
        subst e
        refine yb_eq 54 43 C  dX8_conflict_40 (by decide) rfl (fun c40 => ?_) (fun c40 => ?_)
        · refine yr_iconst 55 C (-1) dX8_conflict_54 rfl rfl ?_
          refine yr_iret C dX8_conflict_55 hr (Nat.le_of_ble_eq_true rfl) (Nat.le_of_ble_eq_true rfl) ?_
          have jk : ¬ nI j = nI k := fun z => c28 (by rw [nI_inj (by omega) (by omega) z])
          exact ⟨by simp [sp_conflict, e1, f1, jk, c40], by simpa [sp_conflict, e1, f1, jk, c40] using hR⟩
        · refine yr_iload 45 C dX8_conflict_43 rfl rfl ?_
          refine yr_iconst 46 C (0) dX8_conflict_45 rfl rfl ?_
          refine yr_bipush 48 C (20) dX8_conflict_46 rfl rfl ?_
          refine yr_S3v 51 C (xc_isWithin _ _ _ _ hR) dX8_conflict_48 mt_X8_isWithin ms_X8_isWithin ml_X8_95 (Nat.le_of_ble_eq_true rfl) (Nat.le_of_ble_eq_true rfl) (Nat.le_of_ble_eq_true rfl) (Nat.le_of_ble_eq_true rfl) (Nat.le_of_ble_eq_true rfl) rfl (fun h e => ?_)
          subst e
          refine yb_ne 56 54 C  dX8_conflict_51 (by decide) rfl (fun c51 => ?_) (fun c51 => ?_)
          · refine yr_aload_n 57 C dX8_conflict_56 rfl rfl rfl ?_
            refine yr_get 60 C dX8_conflict_57 fl_X8_49 (rx0 hR) rfl rfl ?_
            refine yr_if_le 66 63 C  dX8_conflict_60 (by decide) rfl (fun c60 => ?_) (fun c60 => ?_)
            · refine yr_iconst 67 C (0) dX8_conflict_66 rfl rfl ?_
              refine yr_istore7 69 C dX8_conflict_67 (by decide) rfl ?_
              have loop69 : ∀ (r i : Nat) , i + r = N 1 → m_cfL S (nI j) (nI k) r i = m_cfL S (nI j) (nI k) (N 1) 0 → ∀ h : yH, RX dA t0 (S) lf mc cap B N h → yW p l e (yR 4 0 0) s m args below meth c 9 D A 0 0 (yF D A (fun r h' => r = some (.int (sp_conflict S (nI j) (nI k) a b).1) ∧ RX dA t0 ((sp_conflict S (nI j) (nI k) a b).2) lf mc cap B N h') below args s 0 0) 69 [some (.ref (B 0 0)), some (.int (nI j)), some (.int (nI k)), some (.int a), some (.int b), some (.ref (B 3 j)), some (.ref (B 3 k)), some (.int (nI i)), none] [] h := by
                intro r
                induction r with
                | zero =>
                  intro i  hij he h hR
                  refine yr_iload 71 C dX8_conflict_69 rfl rfl ?_
                  refine yr_aload_n 72 C dX8_conflict_71 rfl rfl rfl ?_
                  refine yr_get 75 C dX8_conflict_72 fl_X8_16 (rx0 hR) rfl rfl ?_
                  refine yr_V0v 78 C (jl_size (show 1 < 5 by decide) _ hR) dX8_conflict_75 mt_Jx4a65c_size_8abf5 mv_Jx4a65c_size_8abf5 ml_X8_75 (rx1 hR (show 1 < 5 by decide)) rfl (Nat.le_of_ble_eq_true rfl) (Nat.le_of_ble_eq_true rfl) (Nat.le_of_ble_eq_true rfl) (Nat.le_of_ble_eq_true rfl) (Nat.le_of_ble_eq_true rfl) rfl (fun h e => ?_)
                  subst e
                  refine yr_icmp_ge 124 81 C  dX8_conflict_78 (by decide) rfl (fun c78 => ?_) (fun c78 => ?_)
                  rotate_left
                  · exact absurd (nI_le (by omega) (by omega)) c78
                  have pa : 0 < a + 1 := m_in_s c40
                  have pb : 0 < b + 1 := m_in_s c51
                  refine yr_aload 126 C dX8_conflict_124 rfl rfl rfl ?_
                  refine yr_aload 128 C dX8_conflict_126 rfl rfl rfl ?_
                  refine yr_iload_n 129 C dX8_conflict_128 rfl rfl ?_
                  refine yr_V2u 132 C (xc_setClearing j k hj hk h0.2 a pa _ hR) dX8_conflict_129 mt_X6_setClearing mv_X6_setClearing ml_X8_109 (rx3 hR hj) rfl (Nat.le_of_ble_eq_true rfl) (Nat.le_of_ble_eq_true rfl) (Nat.le_of_ble_eq_true rfl) (Nat.le_of_ble_eq_true rfl) (Nat.le_of_ble_eq_true rfl) rfl (fun h hR => ?_)
                  refine yr_aload 134 C dX8_conflict_132 rfl rfl rfl ?_
                  refine yr_aload 136 C dX8_conflict_134 rfl rfl rfl ?_
                  refine yr_iload 138 C dX8_conflict_136 rfl rfl ?_
                  refine yr_V2u 141 C (xc_setClearing k j hk hj h0.2 b pb _ hR) dX8_conflict_138 mt_X6_setClearing mv_X6_setClearing ml_X8_109 (rx3 hR hk) rfl (Nat.le_of_ble_eq_true rfl) (Nat.le_of_ble_eq_true rfl) (Nat.le_of_ble_eq_true rfl) (Nat.le_of_ble_eq_true rfl) (Nat.le_of_ble_eq_true rfl) rfl (fun h hR => ?_)
                  refine yr_iconst 142 C (1) dX8_conflict_141 rfl rfl ?_
                  refine yr_iret C dX8_conflict_142 hr (Nat.le_of_ble_eq_true rfl) (Nat.le_of_ble_eq_true rfl) ?_
                  have jk : ¬ nI j = nI k := fun z => c28 (by rw [nI_inj (by omega) (by omega) z])
                  have e6 : m_cfL S (nI j) (nI k) (N 1) 0 = false := he.symm
                  exact ⟨by simp [sp_conflict, e1, f1, jk, c40, c51, c60, es, e6], by simpa [sp_conflict, e1, f1, jk, c40, c51, c60, es, e6, ej, ek] using hR⟩
                | succ r ih =>
                  intro i  hij he h hR
                  refine yr_iload 71 C dX8_conflict_69 rfl rfl ?_
                  refine yr_aload_n 72 C dX8_conflict_71 rfl rfl rfl ?_
                  refine yr_get 75 C dX8_conflict_72 fl_X8_16 (rx0 hR) rfl rfl ?_
                  refine yr_V0v 78 C (jl_size (show 1 < 5 by decide) _ hR) dX8_conflict_75 mt_Jx4a65c_size_8abf5 mv_Jx4a65c_size_8abf5 ml_X8_75 (rx1 hR (show 1 < 5 by decide)) rfl (Nat.le_of_ble_eq_true rfl) (Nat.le_of_ble_eq_true rfl) (Nat.le_of_ble_eq_true rfl) (Nat.le_of_ble_eq_true rfl) (Nat.le_of_ble_eq_true rfl) rfl (fun h e => ?_)
                  subst e
                  refine yr_icmp_ge 124 81 C  dX8_conflict_78 (by decide) rfl (fun c78 => ?_) (fun c78 => ?_)
                  · exact absurd c78 (nI_ge (by omega) (by omega))
                  refine yr_aload_n 82 C dX8_conflict_81 rfl rfl rfl ?_
                  refine yr_get 85 C dX8_conflict_82 fl_X8_16 (rx0 hR) rfl rfl ?_
                  refine yr_iload 87 C dX8_conflict_85 rfl rfl ?_
                  refine yr_V1v 90 C (jl_get (show 1 < 5 by decide) (j := i) (by omega) _ hR) dX8_conflict_87 mt_Jx4a65c_get_915e3 mv_Jx4a65c_get_915e3 ml_X8_99 (rx1 hR (show 1 < 5 by decide)) rfl (Nat.le_of_ble_eq_true rfl) (Nat.le_of_ble_eq_true rfl) (Nat.le_of_ble_eq_true rfl) (Nat.le_of_ble_eq_true rfl) (Nat.le_of_ble_eq_true rfl) rfl (fun h e => ?_)
                  subst e
                  rw [show xkd 1 = 6 from rfl]
                  refine yr_cast 93 C dX8_conflict_90 (rx6 hR (by omega)) rfl cl_X8_103 rfl ?_
                  refine yr_astore8 95 C dX8_conflict_93 rfl (by decide) rfl ?_
                  refine yr_aload 97 C dX8_conflict_95 rfl rfl rfl ?_
                  refine yr_aload 99 C dX8_conflict_97 rfl rfl rfl ?_
                  refine yr_V1v 102 C (xc_hasPhase i j (by omega) hj hB _ hR) dX8_conflict_99 mt_X7_hasPhase mv_X7_hasPhase ml_X8_105 (rx6 hR (by omega)) rfl (Nat.le_of_ble_eq_true rfl) (Nat.le_of_ble_eq_true rfl) (Nat.le_of_ble_eq_true rfl) (Nat.le_of_ble_eq_true rfl) (Nat.le_of_ble_eq_true rfl) rfl (fun h hR => ?_)
                  refine yb_eq 118 105 C  dX8_conflict_102 (by decide) rfl (fun c102 => ?_) (fun c102 => ?_)
                  · refine yr_iinc7 121 C (1) dX8_conflict_118 rfl (by decide) rfl ?_
                    rw [nI_1]
                    refine yr_goto 69 C dX8_conflict_121 (by decide) ?_
                    refine yr_forget8 ?_
                    exact ih (i + 1) (by omega) (by rw [← he]; simp [m_cfL, c102]) h hR
                  · refine yr_aload 107 C dX8_conflict_105 rfl rfl rfl ?_
                    refine yr_aload 109 C dX8_conflict_107 rfl rfl rfl ?_
                    refine yr_V1v 112 C (xc_hasPhase i k (by omega) hk hB _ hR) dX8_conflict_109 mt_X7_hasPhase mv_X7_hasPhase ml_X8_105 (rx6 hR (by omega)) rfl (Nat.le_of_ble_eq_true rfl) (Nat.le_of_ble_eq_true rfl) (Nat.le_of_ble_eq_true rfl) (Nat.le_of_ble_eq_true rfl) (Nat.le_of_ble_eq_true rfl) rfl (fun h hR => ?_)
                    refine yb_eq 118 115 C  dX8_conflict_112 (by decide) rfl (fun c112 => ?_) (fun c112 => ?_)
                    · refine yr_iinc7 121 C (1) dX8_conflict_118 rfl (by decide) rfl ?_
                      rw [nI_1]
                      refine yr_goto 69 C dX8_conflict_121 (by decide) ?_
                      refine yr_forget8 ?_
                      exact ih (i + 1) (by omega) (by rw [← he]; simp [m_cfL, c102, c112]) h hR
                    · refine yr_bipush 117 C (-4) dX8_conflict_115 rfl rfl ?_
                      refine yr_iret C dX8_conflict_117 hr (Nat.le_of_ble_eq_true rfl) (Nat.le_of_ble_eq_true rfl) ?_
                      have jk : ¬ nI j = nI k := fun z => c28 (by rw [nI_inj (by omega) (by omega) z])
                      have e6 : m_cfL S (nI j) (nI k) (N 1) 0 = true := by rw [← he]; simp [m_cfL, c102, c112]
                      exact ⟨by simp [sp_conflict, e1, f1, jk, c40, c51, c60, es, e6], by simpa [sp_conflict, e1, f1, jk, c40, c51, c60, es, e6] using hR⟩
              exact loop69 (N 1) 0 (by omega) rfl h hR
            · refine yr_bipush 65 C (-3) dX8_conflict_63 rfl rfl ?_
              refine yr_iret C dX8_conflict_65 hr (Nat.le_of_ble_eq_true rfl) (Nat.le_of_ble_eq_true rfl) ?_
              have jk : ¬ nI j = nI k := fun z => c28 (by rw [nI_inj (by omega) (by omega) z])
              exact ⟨by simp [sp_conflict, e1, f1, jk, c40, c51, c60], by simpa [sp_conflict, e1, f1, jk, c40, c51, c60] using hR⟩
          · refine yr_iconst 55 C (-1) dX8_conflict_54 rfl rfl ?_
            refine yr_iret C dX8_conflict_55 hr (Nat.le_of_ble_eq_true rfl) (Nat.le_of_ble_eq_true rfl) ?_
            have jk : ¬ nI j = nI k := fun z => c28 (by rw [nI_inj (by omega) (by omega) z])
            exact ⟨by simp [sp_conflict, e1, f1, jk, c40, c51], by simpa [sp_conflict, e1, f1, jk, c40, c51] using hR⟩
      · refine yr_iconst 32 C (-1) dX8_conflict_31 rfl rfl ?_
        refine yr_iret C dX8_conflict_32 hr (Nat.le_of_ble_eq_true rfl) (Nat.le_of_ble_eq_true rfl) ?_
        have jk : j = k := (hR.2.1 3 j 3 k hj hk (Option.some.inj c28)).2
        subst jk
        exact ⟨by simp [sp_conflict, e1], by simpa [sp_conflict, e1] using hR⟩
end X19
