/-! the places of a new stage -/
theorem stI_none {X : yS} {p : Int32} : ∀ (j k : Nat) (m : Bool), m_stI X p j k m = none ↔ ∃ q, k ≤ q ∧ q < k + j ∧ X 52 q = p
  | 0, k, m => by
    constructor
    · intro h
      cases h
    · rintro ⟨q, h1, h2, _⟩
      omega
  | j + 1, k, m => by
    unfold m_stI
    by_cases c : X 52 k = p
    · rw [if_pos c]
      exact ⟨fun _ => ⟨k, Nat.le_refl k, by omega, c⟩, fun _ => rfl⟩
    · rw [if_neg c, stI_none j (k + 1)]
      constructor
      · rintro ⟨q, h1, h2, h3⟩
        exact ⟨q, by omega, by omega, h3⟩
      · rintro ⟨q, h1, h2, h3⟩
        refine ⟨q, ?_, by omega, h3⟩
        rcases (by omega : q = k ∨ k + 1 ≤ q) with z | z
        · rw [z] at h3
          exact absurd h3 c
        · exact z
theorem stI_some {X : yS} {p : Int32} : ∀ (j k : Nat) (m m2 : Bool), m_stI X p j k m = some m2 → (m2 = true ↔ (m = true ∨ ∃ q, k ≤ q ∧ q < k + j ∧ X 52 q ≠ -5 ∧ m_meets X (ix p) (ix (X 52 q)) = true))
  | 0, k, m, m2, h => by
    unfold m_stI at h
    cases h
    constructor
    · exact Or.inl
    · rintro (h | ⟨q, h1, h2, _⟩)
      · exact h
      · omega
  | j + 1, k, m, m2, h => by
    unfold m_stI at h
    by_cases c : X 52 k = p
    · rw [if_pos c] at h
      cases h
    · rw [if_neg c] at h
      rw [stI_some j (k + 1) _ m2 h]
      constructor
      · rintro (h | ⟨q, h1, h2, h3⟩)
        · rw [Bool.or_eq_true] at h
          rcases h with h | h
          · exact Or.inl h
          · rw [Bool.and_eq_true, Bool.not_eq_true', decide_eq_false_iff_not] at h
            exact Or.inr ⟨k, Nat.le_refl k, by omega, h⟩
        · exact Or.inr ⟨q, by omega, by omega, h3⟩
      · rintro (h | ⟨q, h1, h2, h3⟩)
        · exact Or.inl (by rw [h, Bool.true_or])
        · rcases (by omega : q = k ∨ k + 1 ≤ q) with z | z
          · subst z
            left
            rw [Bool.or_eq_true]
            right
            rw [Bool.and_eq_true, Bool.not_eq_true', decide_eq_false_iff_not]
            exact h3
          · exact Or.inr ⟨q, z, by omega, h3⟩
theorem hasR_iff {f : Nat → Option Nat} {y : Nat} : ∀ (j i : Nat), hasR f y j i = true ↔ ∃ k, i ≤ k ∧ k < i + j ∧ f k = some y
  | 0, i => by
    constructor
    · intro h
      cases h
    · rintro ⟨k, h1, h2, _⟩
      omega
  | j + 1, i => by
    unfold hasR
    by_cases c : f i = some y
    · rw [if_pos c]
      exact ⟨fun _ => ⟨i, Nat.le_refl i, by omega, c⟩, fun _ => rfl⟩
    · rw [if_neg c, hasR_iff j (i + 1)]
      constructor
      · rintro ⟨k, h1, h2, h3⟩
        exact ⟨k, by omega, by omega, h3⟩
      · rintro ⟨k, h1, h2, h3⟩
        refine ⟨k, ?_, by omega, h3⟩
        rcases (by omega : k = i ∨ i + 1 ≤ k) with z | z
        · rw [z] at h3
          exact absurd h3 c
        · exact z
theorem emR_iff {f : Nat → Option Nat} : ∀ (j i : Nat), emR f j i = true ↔ ∀ k, i ≤ k → k < i + j → f k = none
  | 0, i => ⟨fun _ k h1 h2 => by omega, fun _ => rfl⟩
  | j + 1, i => by
    unfold emR
    by_cases c : f i = none
    · rw [if_pos c, emR_iff j (i + 1)]
      constructor
      · intro h k h1 h2
        rcases (by omega : k = i ∨ i + 1 ≤ k) with z | z
        · rw [z]
          exact c
        · exact h k z (by omega)
      · intro h k h1 h2
        exact h k (by omega) (by omega)
    · rw [if_neg c]
      constructor
      · intro h
        cases h
      · intro h
        exact absurd (h i (Nat.le_refl i) (by omega)) c
theorem cfI_iff {S : yS} {F : Nat → Int32} {i : Nat} : ∀ (j k : Nat), cfI S F i j k = true ↔ ∃ q, k ≤ q ∧ q < k + j ∧ cf1 S (F i) (F q) = true
  | 0, k => by
    constructor
    · intro h
      cases h
    · rintro ⟨q, h1, h2, _⟩
      omega
  | j + 1, k => by
    unfold cfI
    by_cases c : cf1 S (F i) (F k) = true
    · rw [if_pos c]
      exact ⟨fun _ => ⟨k, Nat.le_refl k, by omega, c⟩, fun _ => rfl⟩
    · rw [if_neg c, cfI_iff j (k + 1)]
      constructor
      · rintro ⟨q, h1, h2, h3⟩
        exact ⟨q, by omega, by omega, h3⟩
      · rintro ⟨q, h1, h2, h3⟩
        refine ⟨q, ?_, by omega, h3⟩
        rcases (by omega : q = k ∨ k + 1 ≤ q) with z | z
        · rw [z] at h3
          exact absurd h3 c
        · exact z
theorem cfO_iff {S : yS} {F : Nat → Int32} : ∀ (j i : Nat), cfO S F j i = true ↔ ∃ p, i ≤ p ∧ p < i + j ∧ ∃ q, q < 4 ∧ cf1 S (F p) (F q) = true
  | 0, i => by
    constructor
    · intro h
      cases h
    · rintro ⟨q, h1, h2, _⟩
      omega
  | j + 1, i => by
    unfold cfO
    by_cases c : cfI S F i 4 0 = true
    · rw [if_pos c]
      obtain ⟨q, h1, h2, h3⟩ := (cfI_iff 4 0).mp c
      exact ⟨fun _ => ⟨i, Nat.le_refl i, by omega, q, by omega, h3⟩, fun _ => rfl⟩
    · rw [if_neg c, cfO_iff j (i + 1)]
      constructor
      · rintro ⟨p, h1, h2, h3⟩
        exact ⟨p, by omega, by omega, h3⟩
      · rintro ⟨p, h1, h2, q, h3, h4⟩
        refine ⟨p, ?_, by omega, q, h3, h4⟩
        rcases (by omega : p = i ∨ i + 1 ≤ p) with z | z
        · rw [z] at h4
          exact absurd ((cfI_iff 4 0).mpr ⟨q, by omega, by omega, h4⟩) c
        · exact z
theorem xCl_ne {S : yS} {p q : Nat} : xCl S p q ≠ -5 ↔ 0 < S 16 (8 * p + q) := by
  unfold xCl
  by_cases c : 0 < S 16 (8 * p + q)
  · rw [if_pos c]
    refine ⟨fun _ => c, fun _ e => ?_⟩
    have e2 : S 16 (8 * p + q) = -5 + 1 := by rw [← e]; exact (Int32.sub_add_cancel _ _).symm
    rw [e2] at c
    exact absurd c (by decide)
  · rw [if_neg c]
    exact ⟨fun h => absurd rfl h, fun h => absurd h c⟩
/-- the first i places: what the reference has seen of them -/
def stH (X : yS) (np i : Nat) (any me : Bool) : Prop := (∀ k, k < i → cO (X 52 k) np) ∧ (any = true ↔ ∃ k, k < i ∧ X 52 k ≠ -5) ∧ (me = true ↔ ∃ k k', k < k' ∧ k' < i ∧ X 52 k ≠ -5 ∧ X 52 k' ≠ -5 ∧ m_meets X (ix (X 52 k')) (ix (X 52 k)) = true)
theorem stH_0 (X : yS) (np : Nat) : stH X np 0 false false := ⟨fun k hk => by omega, ⟨(fun h => by cases h), (fun ⟨k, hk, _⟩ => by omega)⟩, ⟨(fun h => by cases h), (fun ⟨k, k', _, hk, _⟩ => by omega)⟩⟩
theorem stH_none {X : yS} {np i : Nat} {any me : Bool} (h : stH X np i any me) (e : X 52 i = -5) : stH X np (i + 1) any me := by
  obtain ⟨h1, h2, h3⟩ := h
  refine ⟨fun k hk => ?_, ?_, ?_⟩
  · rcases (by omega : k < i ∨ k = i) with z | z
    · exact h1 k z
    · rw [z]
      exact Or.inl e
  · rw [h2]
    constructor
    · rintro ⟨k, hk, q⟩
      exact ⟨k, by omega, q⟩
    · rintro ⟨k, hk, q⟩
      rcases (by omega : k < i ∨ k = i) with z | z
      · exact ⟨k, z, q⟩
      · rw [z] at q
        exact absurd e q
  · rw [h3]
    constructor
    · rintro ⟨k, k', a, b, c, d, f⟩
      exact ⟨k, k', a, by omega, c, d, f⟩
    · rintro ⟨k, k', a, b, c, d, f⟩
      rcases (by omega : k' < i ∨ k' = i) with z | z
      · exact ⟨k, k', a, z, c, d, f⟩
      · rw [z] at d
        exact absurd e d
theorem stH_some {X : yS} {np i p : Nat} {any me m2 : Bool} (h : stH X np i any me) (hp : p < np) (hn : np ≤ 8) (e : X 52 i = nI p) (hm : m_stI X (nI p) i 0 me = some m2) : stH X np (i + 1) true m2 := by
  obtain ⟨h1, h2, h3⟩ := h
  have hne : X 52 i ≠ -5 := by rw [e]; exact nI_m5 (by omega)
  refine ⟨fun k hk => ?_, ⟨fun _ => ⟨i, by omega, hne⟩, fun _ => rfl⟩, ?_⟩
  · rcases (by omega : k < i ∨ k = i) with z | z
    · exact h1 k z
    · rw [z]
      exact Or.inr ⟨p, hp, e⟩
  · rw [stI_some i 0 me m2 hm, h3]
    constructor
    · rintro (⟨k, k', a, b, c, d, f⟩ | ⟨q, a, b, c, d⟩)
      · exact ⟨k, k', a, by omega, c, d, f⟩
      · exact ⟨q, i, by omega, by omega, c, hne, by rw [e]; exact d⟩
    · rintro ⟨k, k', a, b, c, d, f⟩
      rcases (by omega : k' < i ∨ k' = i) with z | z
      · exact Or.inl ⟨k, k', a, z, c, d, f⟩
      · rw [z, e] at f
        exact Or.inr ⟨k, by omega, by omega, c, f⟩
theorem stH_conf {X : yS} {np : Nat} {any me : Bool} {F : Nat → Int32} (h : stH X np 4 any me) (hn : np ≤ 8) (hF : ∀ k, k < 4 → F k = X 52 k) (h21 : ∀ p, p < 8 → ∀ q, q < 8 → ∃ c, c ≤ 21 ∧ X 16 (8 * p + q) = nI c ∧ (p = q → c = 0) ∧ (np ≤ p → c = 0) ∧ (np ≤ q → c = 0)) (h22 : ∀ p, p < 8 → ∀ q, q < 8 → (0 < X 16 (8 * p + q) ↔ 0 < X 16 (8 * q + p))) : cfO X F 4 0 = me := by
  obtain ⟨h1, h2, h3⟩ := h
  rw [Bool.eq_iff_iff, h3, cfO_iff]
  have one : ∀ i k, i < 4 → k < 4 → (cf1 X (F i) (F k) = true ↔ X 52 i ≠ -5 ∧ X 52 k ≠ -5 ∧ m_meets X (ix (X 52 i)) (ix (X 52 k)) = true) := by
    intro i k hi hk
    rw [hF i hi, hF k hk]
    unfold cf1 m_meets
    rw [Bool.and_eq_true, Bool.and_eq_true, Bool.not_eq_true', Bool.not_eq_true', Bool.not_eq_true', decide_eq_false_iff_not, decide_eq_false_iff_not, decide_eq_false_iff_not, decide_eq_true_eq]
    have ng : ∀ k, k < 4 → (¬ X 52 k < 0 ↔ X 52 k ≠ -5) := fun k hk => by
      rcases h1 k hk with z | ⟨p, hp, z⟩
      · rw [z]
        exact ⟨fun q => absurd (by decide) q, fun q => absurd rfl q⟩
      · rw [z]
        exact ⟨fun _ => nI_m5 (by omega), fun _ => nI_pos (by omega)⟩
    rw [ng i hi, ng k hk]
    constructor
    · rintro ⟨a, b, c⟩
      exact ⟨a, b, xCl_ne.mp c⟩
    · rintro ⟨a, b, c⟩
      exact ⟨a, b, xCl_ne.mpr c⟩
  have lt8 : ∀ k, k < 4 → ix (X 52 k) < 8 := fun k hk => by
    rcases h1 k hk with z | ⟨p, hp, z⟩
    · rw [z]
      decide
    · rw [z, ix_nI (by omega)]
      omega
  constructor
  · rintro ⟨i, _, hi, k, hk, c⟩
    obtain ⟨a, b, d⟩ := (one i k (by omega) hk).mp c
    rcases (by omega : k < i ∨ i < k ∨ i = k) with z | z | z
    · exact ⟨k, i, z, by omega, b, a, d⟩
    · refine ⟨i, k, z, hk, a, b, ?_⟩
      unfold m_meets at d ⊢
      rw [decide_eq_true_eq] at d ⊢
      exact (h22 _ (lt8 i (by omega)) _ (lt8 k hk)).mp d
    · subst z
      unfold m_meets at d
      rw [decide_eq_true_eq] at d
      obtain ⟨c2, _, e2, e3, _⟩ := h21 _ (lt8 i (by omega)) _ (lt8 i (by omega))
      rw [e2, e3 rfl] at d
      exact absurd d (by decide)
  · rintro ⟨k, k', a, b, c, d, f⟩
    exact ⟨k', by omega, by omega, k, by omega, (one k' k b (by omega)).mpr ⟨d, c, f⟩⟩
theorem four_at {S : yS} {x1 x2 x3 x4 : Int32} (k : Nat) (hk : k < 4) : upd (upd (upd (upd (fun _ => (0 : Int32)) (0 : Int32).toNatClampNeg x1) (1 : Int32).toNatClampNeg x2) (2 : Int32).toNatClampNeg x3) (3 : Int32).toNatClampNeg x4 k = m_four S x1 x2 x3 x4 52 k := by
  unfold m_four
  rcases (by omega : k = 0 ∨ k = 1 ∨ k = 2 ∨ k = 3) with rfl | rfl | rfl | rfl <;> rfl
/-- the world while a stage is made: q0 the numbers, a the stage, q7 its places -/
def SW (dA : Nat → ClassId) (hb : yH) (q0 a q7 : Nat) (nn : Nat → Int32) (x : Value) (f : Nat → Option Nat) (h : yH) : Prop := (∀ y e, hb y = some e → h y = some e) ∧ h q0 = some (.inl (dA 0, 4, .inl nn)) ∧ SWp dA a q7 x f h ∧ (hb q0 = none ∧ hb a = none ∧ hb q7 = none) ∧ q0 ≠ a ∧ q0 ≠ q7 ∧ a ≠ q7
theorem SW_put {dA : Nat → ClassId} {hb : yH} {q0 a q7 : Nat} {nn : Nat → Int32} {x : Value} {f g : Nat → Option Nat} {h : yH} (hW : SW dA hb q0 a q7 nn x f h) : SW dA hb q0 a q7 nn x g (va_up h q7 (some (.inl (dA 4, 4, yQ g)))) := by
  obtain ⟨a1, a2, ⟨a3, a4⟩, ⟨b1, b2, b3⟩, c1, c2, c3⟩ := hW
  refine ⟨fun y e q => ?_, by rw [va_up_ne' _ _ c2]; exact a2, ⟨by rw [va_up_ne' _ _ c3]; exact a3, va_up_self' _ _ _⟩, ⟨b1, b2, b3⟩, c1, c2, c3⟩
  rw [va_up_ne' _ _ (fun z => by rw [z, b3] at q; cases q)]
  exact a1 y e q
def fI (B : Nat → Nat → Nat) (X : yS) (i : Nat) : Nat → Option Nat := fun k => if k < i then xr (B 3) (X 52 k) else none
def F4 (X : yS) : Nat → Int32 := fun k => if k < 4 then X 52 k else -5
theorem fI_4 (B : Nat → Nat → Nat) (X : yS) : fI B X 4 = fun k => xr (B 3) (F4 X k) := by
  funext k
  unfold fI F4
  by_cases c : k < 4
  · rw [if_pos c, if_pos c]
  · rw [if_neg c, if_neg c, xr_m5]
theorem fI_none {B : Nat → Nat → Nat} {X : yS} {i : Nat} (e : X 52 i = -5) : fI B X (i + 1) = fI B X i := by
  funext k
  unfold fI
  rcases (by omega : k < i ∨ k = i ∨ i < k) with z | z | z
  · rw [if_pos z, if_pos (by omega)]
  · rw [if_pos (by omega), if_neg (by omega), z, e, xr_m5]
  · rw [if_neg (by omega), if_neg (by omega)]
theorem fI_some {B : Nat → Nat → Nat} {X : yS} {i p : Nat} (hp : p < 2 ^ 31) (e : X 52 i = nI p) : fI B X (i + 1) = va_up (fI B X i) i (some (B 3 p)) := by
  funext k
  show (if k < i + 1 then xr (B 3) (X 52 k) else none) = if k = i then some (B 3 p) else if k < i then xr (B 3) (X 52 k) else none
  rcases (by omega : k < i ∨ k = i ∨ i < k) with z | z | z
  · rw [if_neg (show k ≠ i by omega), if_pos z, if_pos (by omega)]
  · rw [if_pos z, if_pos (by omega), z, e, xr_nI hp]
  · rw [if_neg (show k ≠ i by omega), if_neg (by omega), if_neg (by omega)]
theorem fI_0 (B : Nat → Nat → Nat) (X : yS) : fI B X 0 = fun _ => none := by
  funext k
  unfold fI
  rw [if_neg (Nat.not_lt_zero k)]
section X27
variable {D : va_G} {dA : Nat → ClassId} {t0 mi : Nat} {S : yS} {lf mc : Nat → Int32} {cap : Nat → Nat} {B : Nat → Nat → Nat} {N : Nat → Nat}
variable {t : Nat}
set_option maxHeartbeats 4000000 in
set_option maxRecDepth 100000 in
theorem xc_stage (x1 x2 x3 x4 : Int32) (hI : mI S (N 0) (N 1) (N 2) (N 3) (N 4) t) (ht : t < 2 ^ 20) (hlf : lf = S 5) (h : yH) (hR : RX dA t0 (S) lf mc cap B N h) : yM (yZ t0 mi D dA) D yX8_stage cX8_stage 9 (some .int) 7 4 44 [.ref (B 0 0), .int x1, .int x2, .int x3, .int x4] h (fun r h' => r = some (.int (sp_stage S x1 x2 x3 x4).1) ∧ XI dA t0 (sp_stage S x1 x2 x3 x4).2 (B 0 0) t h') := by
  refine yM_of (yZ_ok t0 mi D dA) (by decide) rfl (Nat.le_of_ble_eq_true rfl) ?_
  intro p l e s m args below meth c A C hr hin
  show yW p l e (yR 7 4 44) s m args below meth c 9 D A 0 0 _ 0 [some (.ref (B 0 0)), some (.int x1), some (.int x2), some (.int x3), some (.int x4), none, none, none, none] [] h
  subst hlf
  have h0 : S 1 0 = nI (N 0) ∧ N 0 ≤ 8 := hI 0
  have h1 : S 17 0 = nI (N 1) ∧ N 1 ≤ 6 := hI 1
  have h2 : S 19 0 = nI (N 2) ∧ N 2 ≤ 12 := hI 2
  have h5 : S 0 0 = nI t := hI 5
  have hB := mB_of_mI hI ht
  refine yr_iconst 1 C (4) dX8_stage_0 rfl rfl ?_
  refine yr_newaI 3 C 4 dX8_stage_1 ac_int (by decide) (by decide) (by decide) (Nat.le_of_ble_eq_true rfl) (Nat.le_of_ble_eq_true rfl) rfl (fun q0 hq0 => ?_)
  refine yr_dup 4 C dX8_stage_3 rfl rfl ?_
  refine yr_iconst 5 C (0) dX8_stage_4 rfl rfl ?_
  refine yr_iload_n 6 C dX8_stage_5 rfl rfl ?_
  refine yr_iast 7 C dX8_stage_6 (va_up_self' _ _ _) (vp_in_nI (n := 0) (by decide) (by decide)) rfl ?_
  refine yr_dup 8 C dX8_stage_7 rfl rfl ?_
  refine yr_iconst 9 C (1) dX8_stage_8 rfl rfl ?_
  refine yr_iload_n 10 C dX8_stage_9 rfl rfl ?_
  refine yr_iast 11 C dX8_stage_10 (va_up_self' _ _ _) (vp_in_nI (n := 1) (by decide) (by decide)) rfl ?_
  refine yr_dup 12 C dX8_stage_11 rfl rfl ?_
  refine yr_iconst 13 C (2) dX8_stage_12 rfl rfl ?_
  refine yr_iload_n 14 C dX8_stage_13 rfl rfl ?_
  refine yr_iast 15 C dX8_stage_14 (va_up_self' _ _ _) (vp_in_nI (n := 2) (by decide) (by decide)) rfl ?_
  refine yr_dup 16 C dX8_stage_15 rfl rfl ?_
  refine yr_iconst 17 C (3) dX8_stage_16 rfl rfl ?_
  refine yr_iload 19 C dX8_stage_17 rfl rfl ?_
  refine yr_iast 20 C dX8_stage_19 (va_up_self' _ _ _) (vp_in_nI (n := 3) (by decide) (by decide)) rfl ?_
  rename yH => hb
  rw [va_up_up, va_up_up, va_up_up, va_up_up]
  have hnn := four_at (S := S) (x1 := x1) (x2 := x2) (x3 := x3) (x4 := x4)
  have hR0 := hR
  have hs0 := sub_up (e := some (.inl (dA 0, 4, .inl (upd (upd (upd (upd (fun _ => (0 : Int32)) (0 : Int32).toNatClampNeg x1) (1 : Int32).toNatClampNeg x2) (2 : Int32).toNatClampNeg x3) (3 : Int32).toNatClampNeg x4)))) hq0
  have hq1 := va_up_self' hb q0 (some (.inl (dA 0, 4, .inl (upd (upd (upd (upd (fun _ => (0 : Int32)) (0 : Int32).toNatClampNeg x1) (1 : Int32).toNatClampNeg x2) (2 : Int32).toNatClampNeg x3) (3 : Int32).toNatClampNeg x4))))
  generalize upd (upd (upd (upd (fun _ => (0 : Int32)) (0 : Int32).toNatClampNeg x1) (1 : Int32).toNatClampNeg x2) (2 : Int32).toNatClampNeg x3) (3 : Int32).toNatClampNeg x4 = nn at hnn hs0 hq1 ⊢
  replace hR := RX_sub hR hs0
  generalize va_up hb q0 (some (.inl (dA 0, 4, .inl nn))) = h at hR hs0 hq1 ⊢
  obtain ⟨X, hX⟩ : ∃ X, X = (m_four S x1 x2 x3 x4) := ⟨_, rfl⟩
  have eX : ∀ r, r ∉ ([52] : List Nat) → X r = S r := by rw [hX]; exact m_four_rw S x1 x2 x3 x4
  rw [← hX] at hnn
  have hIX : mI X (N 0) (N 1) (N 2) (N 3) (N 4) t := by rw [hX]; exact mI_four x1 x2 x3 x4 hI
  have x0 : X 1 0 = nI (N 0) ∧ N 0 ≤ 8 := hIX 0
  refine yr_astore5 22 C dX8_stage_20 rfl (by decide) rfl ?_
  refine yr_new 25 C dX8_stage_22 nw_103 (Nat.le_of_ble_eq_true rfl) (Nat.le_of_ble_eq_true rfl) rfl (fun a ha0 => ?_)
  have hs1 := sub_up (e := some (.inr (8, [.int 0, .null]))) ha0
  have ha1 := va_up_self' h a (some (.inr (8, [.int 0, .null])))
  have hq2 := hs1 _ _ hq1
  have qa : q0 ≠ a := fun z => by rw [z, ha0] at hq1; cases hq1
  replace hR := RX_sub hR hs1
  have hs2 : ∀ y e, hb y = some e → _ := fun y e z => hs1 y e (hs0 y e z)
  have hba : hb a = none := sub_none hs0 ha0
  generalize va_up h a (some (.inr (8, [.int 0, .null]))) = h at hR ha1 hq2 hs2 ⊢
  refine yr_dup 26 C dX8_stage_25 rfl rfl ?_
  refine yr_aload_n 27 C dX8_stage_26 rfl rfl rfl ?_
  refine yr_get 30 C dX8_stage_27 fl_X8_16 (rx0 hR) rfl rfl ?_
  refine yr_V0v 33 C (jl_size (show 1 < 5 by decide) _ hR) dX8_stage_30 mt_Jx4a65c_size_8abf5 mv_Jx4a65c_size_8abf5 ml_X8_75 (rx1 hR (show 1 < 5 by decide)) rfl (Nat.le_of_ble_eq_true rfl) (Nat.le_of_ble_eq_true rfl) (Nat.le_of_ble_eq_true rfl) (Nat.le_of_ble_eq_true rfl) (Nat.le_of_ble_eq_true rfl) rfl (fun h e => ?_)
  subst e
  refine yr_I1u 36 C (xi_stage a (nI (N 1)) _ ha1) dX8_stage_33 mt_X7_init rfl mi_X7_init ml_X8_113 (Nat.le_of_ble_eq_true rfl) (Nat.le_of_ble_eq_true rfl) (Nat.le_of_ble_eq_true rfl) (Nat.le_of_ble_eq_true rfl) (Nat.le_of_ble_eq_true rfl) rfl (fun h hIW => ?_)
  obtain ⟨q7, hIW⟩ := hIW
  obtain ⟨y7a, y7n, y7e⟩ := IW_p1 hIW
  have q07 : q0 ≠ q7 := fun z => by rw [z, y7n] at hq2; cases hq2
  have hW : SW dA hb q0 a q7 nn (.int (nI (N 1))) (fun _ => none) h := ⟨fun y e z => hIW.1 y e (fun q => by rw [q, hba] at z; cases z) (hs2 y e z), hIW.1 q0 _ qa hq2, ⟨hIW.2.1, y7e⟩, ⟨hq0, hba, sub_none hs2 y7n⟩, qa, q07, Ne.symm y7a⟩
  replace hR := RX_sub hR0 hW.1
  refine yr_astore6 38 C dX8_stage_36 rfl (by decide) rfl ?_
  refine yr_iconst 39 C (0) dX8_stage_38 rfl rfl ?_
  refine yr_istore7 41 C dX8_stage_39 (by decide) rfl ?_
  have loop41 : ∀ (j i : Nat) (any me : Bool), i + j = 4 → stH X (N 0) i any me → m_stO X j i any me = m_stO X 4 0 false false → ∀ h : yH, SW dA hb q0 a q7 nn (.int (nI (N 1))) (fI B X i) h → yW p l e (yR 7 4 44) s m args below meth c 9 D A 3 10 (yF D A (fun r h' => r = some (.int (sp_stage S x1 x2 x3 x4).1) ∧ XI dA t0 (sp_stage S x1 x2 x3 x4).2 (B 0 0) t h') below args s 4 44) 41 [some (.ref (B 0 0)), some (.int x1), some (.int x2), some (.int x3), some (.int x4), some (.ref q0), some (.ref a), some (.int (nI i)), none] [] h := by
    intro j
    induction j with
    | zero =>
      intro i any me hij hH he h hR
      have hW := hR
      replace hR := RX_sub hR0 hW.1
      refine yr_iload 43 C dX8_stage_41 rfl rfl ?_
      refine yr_aload 45 C dX8_stage_43 rfl rfl rfl ?_
      refine yr_alen 46 0 C (4) dX8_stage_45 hW.2.1 rfl rfl rfl ?_
      refine yr_icmp_ge 105 49 C  dX8_stage_46 (by decide) rfl (fun c46 => ?_) (fun c46 => ?_)
      rotate_left
      · exact absurd (by rw [show i = 4 by omega]; decide) c46
      have ei4 : i = 4 := by omega
      subst ei4
      rw [fI_4] at hW
      refine yr_aload 107 C dX8_stage_105 rfl rfl rfl ?_
      refine yr_V0v 110 C (xr_isEmpty a q7 _ _ _ hW.2.2.1) dX8_stage_107 mt_X7_isEmpty mv_X7_isEmpty ml_X8_120 hW.2.2.1.1 rfl (Nat.le_of_ble_eq_true rfl) (Nat.le_of_ble_eq_true rfl) (Nat.le_of_ble_eq_true rfl) (Nat.le_of_ble_eq_true rfl) (Nat.le_of_ble_eq_true rfl) rfl (fun h e => ?_)
      subst e
      refine yb_eq 115 113 C  dX8_stage_110 (by decide) rfl (fun c110 => ?_) (fun c110 => ?_)
      · refine yr_aload_n 116 C dX8_stage_115 rfl rfl rfl ?_
        refine yr_get 119 C dX8_stage_116 fl_X8_49 (rx0 hR) rfl rfl ?_
        refine yr_if_le 125 122 C  dX8_stage_119 (by decide) rfl (fun c119 => ?_) (fun c119 => ?_)
        · refine yr_aload 127 C dX8_stage_125 rfl rfl rfl ?_
          refine yr_V0v 130 C (xr_hasConflict (S := X) (lf := S 5) (mc := mc) (cap := cap) (B := B) (N := N) a q7 _ (F4 X) (fun k hk => by unfold F4; rw [if_pos hk]; exact hH.1 k hk) h0.2 _ ⟨RX_ext hR (fun r hr => eX r (fun z => hr (by simp at z; simp [z]))), hW.2.2.1⟩) dX8_stage_127 mt_X7_hasConflict mv_X7_hasConflict ml_X8_124 hW.2.2.1.1 rfl (Nat.le_of_ble_eq_true rfl) (Nat.le_of_ble_eq_true rfl) (Nat.le_of_ble_eq_true rfl) (Nat.le_of_ble_eq_true rfl) (Nat.le_of_ble_eq_true rfl) rfl (fun h e => ?_)
          subst e
          refine yb_eq 136 133 C  dX8_stage_130 (by decide) rfl (fun c130 => ?_) (fun c130 => ?_)
          · refine yr_aload_n 137 C dX8_stage_136 rfl rfl rfl ?_
            refine yr_get 140 C dX8_stage_137 fl_X8_16 (rx0 hR) rfl rfl ?_
            refine yr_V0v 143 C (jl_size (show 1 < 5 by decide) _ hR) dX8_stage_140 mt_Jx4a65c_size_8abf5 mv_Jx4a65c_size_8abf5 ml_X8_75 (rx1 hR (show 1 < 5 by decide)) rfl (Nat.le_of_ble_eq_true rfl) (Nat.le_of_ble_eq_true rfl) (Nat.le_of_ble_eq_true rfl) (Nat.le_of_ble_eq_true rfl) (Nat.le_of_ble_eq_true rfl) rfl (fun h e => ?_)
            subst e
            refine yr_bipush 145 C (6) dX8_stage_143 rfl rfl ?_
            refine yr_icmp_lt 151 148 C  dX8_stage_145 (by decide) rfl (fun c145 => ?_) (fun c145 => ?_)
            · have c152 : N 1 < 6 := by
                rcases Nat.lt_or_ge (N 1) 6 with z | z
                · exact z
                · exact absurd c145 (nI_nlt (b := 6) z (by omega))
              refine yr_aload_n 152 C dX8_stage_151 rfl rfl rfl ?_
              refine yr_get 155 C dX8_stage_152 fl_X8_16 (rx0 hR) rfl rfl ?_
              refine yr_aload 157 C dX8_stage_155 rfl rfl rfl ?_
              obtain ⟨S1, hS1⟩ : ∃ S1, S1 = mset (m_plL (N 1) 4 0 X) 17 0 (nI (N 1) + 1) := ⟨_, rfl⟩
              have eS : ∀ r, r ∉ ([17, 18] : List Nat) → S1 r = X r := fun r hr => by
                rw [hS1]
                simp at hr
                rw [mset_ne _ _ hr.1, m_plL_rw (N 1) 4 0 X r (by simpa using hr.2)]
              have e18 : ∀ s k, k < 4 → S1 18 (4 * s + k) = if s = N 1 then X 52 k else X 18 (4 * s + k) := fun s k hk => by rw [hS1]; exact st_at s k hk
              have hF : RF S1 N := by
                obtain ⟨r1, r2, r3, r4, r5, r6⟩ := RF_of hIX
                unfold RF
                rw [eS 34 (by decide), eS 39 (by decide), eS 4 (by decide), eS 24 (by decide), eS 30 (by decide), eS 31 (by decide)]
                exact ⟨r1, r2, fun s hs k hk => by rw [e18 s k hk, if_neg (by omega)]; exact r3 s hs k hk, r4, r5, r6⟩
              have hRb : RX dA t0 X (S 5) mc cap B N hb := RX_ext hR0 (fun r hr => eX r (fun z => hr (by simp at z; simp [z])))
              have hRf := RX_far (S' := S1) hRb (xV_imp (by rw [eS 20 (by decide)]; exact fun i q => q)) (fun k i v => far_C (t0 := t0) (h := hb) (L := [17, 18]) (k0 := 7) (xV_imp (by rw [eS 20 (by decide)]; exact fun i q => q) k i v) eS (by decide) (fun z => by
                subst z
                have hi : i < N 1 := v
                have ne : i ≠ N 1 := by omega
                simp only [xC]
                congr 5
                funext k
                by_cases c : k < 4
                · rw [if_pos c, if_pos c, e18 i k c, if_neg ne]
                · rw [if_neg c, if_neg c]))
              obtain ⟨Y, hY6, hY7⟩ : ∃ Y : Nat → Nat, Y 6 = a ∧ Y 7 = q7 := ⟨fun k => if k = 6 then a else q7, rfl, rfl⟩
              have kc : ∀ {P : Nat → Prop}, P 6 → P 7 → ∀ k, xnew 1 k = true → P k := fun {P} p3 p4 k hk => by
                simp only [xnew, Bool.or_eq_true, beq_iff_eq] at hk
                rcases hk with rfl | rfl
                · exact p3
                · exact p4
              have hY := kc (P := fun k => hb (Y k) = none) (by rw [hY6]; exact hW.2.2.2.1.2.1) (by rw [hY7]; exact hW.2.2.2.1.2.2)
              have haq : a ≠ q7 := hW.2.2.2.2.2.2
              rw [← hY6]
              refine yr_V1v 160 C (jl_add (li := 1) (Y := Y) (by decide) hRf hF hW.1 hY (by
    intro k k' hk hk' e
    revert k'
    refine kc (P := fun k => ∀ k', xnew 1 k' = true → Y k = Y k' → k = k') ?_ ?_ k hk
    · refine kc ?_ ?_
      · exact fun _ => rfl
      · rw [hY6, hY7]; exact fun z => absurd z haq
    · refine kc ?_ ?_
      · rw [hY6, hY7]; exact fun z => absurd z.symm haq
      · exact fun _ => rfl) (fun ea c2 => kc (fun _ => by
      rw [hY6, hW.2.2.1.1]
      simp only [xC, pushB_new (k := 7) (show xnew 1 7 = true from rfl) (by decide), hY7]) (fun _ => by
      rw [hY7, hW.2.2.1.2]
      simp only [xC]
      congr 5
      funext k
      unfold F4
      by_cases c : k < 4
      · have eb : pushB B 1 (N 1) ea Y 3 = B 3 := by
          funext i
          exact pushB_old rfl (by decide)
        rw [if_pos c, if_pos c, e18 (N 1) k c, if_pos rfl, eb]
      · rw [if_neg c, if_neg c, xr_m5])) (kc (P := fun k => h (Y k) ≠ none) (by rw [hY6, hW.2.2.1.1]; exact fun z => by cases z) (by rw [hY7, hW.2.2.1.2]; exact fun z => by cases z)) (vs := _) (by show _ = some (Sum.inr (8, _)); rw [show xkd 1 = 6 from rfl, hY6]; exact hW.2.2.1.1)) dX8_stage_157 mt_Jx4a65c_add_9ea2d mv_Jx4a65c_add_9ea2d ml_X8_84 (rx1 hR (show 1 < 5 by decide)) rfl (Nat.le_of_ble_eq_true rfl) (Nat.le_of_ble_eq_true rfl) (Nat.le_of_ble_eq_true rfl) (Nat.le_of_ble_eq_true rfl) (Nat.le_of_ble_eq_true rfl) rfl (fun h hR => ?_)
              obtain ⟨ea, c2, hR⟩ := hR
              refine yr_pop 161 C dX8_stage_160 rfl rfl ?_
              have hcell := rx6 hR (s := N 1) (show N 1 < va_up N 1 (N 1 + 1) 1 by rw [va_up_self']; omega)
              rw [pushB_new (k := 6) rfl (by decide)] at hcell
              refine yr_aload 163 C dX8_stage_161 rfl rfl rfl ?_
              refine yr_get 166 C dX8_stage_163 fl_X8_127 hcell rfl rfl ?_
              refine yr_iret C dX8_stage_166 hr (Nat.le_of_ble_eq_true rfl) (Nat.le_of_ble_eq_true rfl) ?_
              have he2 : m_stO X 4 0 false false = some (any, me) := he.symm
              have ha : any = true := by
                cases ha : any with
                | true => rfl
                | false =>
                  have z : emR (fun k => xr (B 3) (F4 X k)) 4 0 = true := (emR_iff 4 0).mpr (fun k _ hk => by
                    have hk4 : k < 4 := by omega
                    unfold F4
                    simp only [if_pos hk4]
                    rcases xr_cases (f := B 3) (by omega) (hH.1 k hk4) with ⟨g1, g2⟩ | ⟨y, hy, g1, g2⟩
                    · exact g2
                    · have : any = true := hH.2.1.mpr ⟨k, hk4, by rw [g1]; exact nI_m5 (by omega)⟩
                      rw [ha] at this
                      cases this)
                  rw [c110] at z
                  cases z
              have hme : cfO X (F4 X) 4 0 = me := stH_conf hH h0.2 (fun k hk => if_pos hk) (hIX 21) (hIX 22)
              have c120 : X 0 0 ≤ 0 := by rw [eX 0 (by decide)]; exact c119
              have x17 : X 17 0 = nI (N 1) := by rw [eX 17 (by decide)]; exact h1.1
              have a3 : ¬ nI (N 1) = 6 := fun z => by
                have := nI_inj (b := 6) (by omega) (by decide) z
                omega
              have es : sp_stage S x1 x2 x3 x4 = (nI (N 1) + 1 - 1, S1) := by
                unfold sp_stage
                rw [← hX, he2, ha]
                show m_st2 X true me = _
                unfold m_st2
                rw [if_pos rfl, if_pos c120, ← hme, c130, if_neg (by decide), x17, if_neg a3, ix_nI (by omega), hS1]
              rw [es]
              have zI := mI_stage c152 (stOk_of x0 (by rw [he2, ha])) hIX
              rw [← hS1] at zI
              have e5 : S1 5 = S 5 := by rw [eS 5 (by decide), eX 5 (by decide)]
              rw [← e5] at hR
              exact ⟨by rw [nI_1, nI_pred], XI_of hR zI rfl (Nat.le_refl t)⟩
            · refine yr_bipush 150 C (-2) dX8_stage_148 rfl rfl ?_
              refine yr_iret C dX8_stage_150 hr (Nat.le_of_ble_eq_true rfl) (Nat.le_of_ble_eq_true rfl) ?_
              have hRX : RX dA t0 X (X 5) mc cap B N h := by
                rw [eX 5 (by decide)]
                exact RX_ext hR (fun r hr => eX r (fun z => hr (by simp at z; simp [z])))
              have he2 : m_stO X 4 0 false false = some (any, me) := he.symm
              have ha : any = true := by
                cases ha : any with
                | true => rfl
                | false =>
                  have z : emR (fun k => xr (B 3) (F4 X k)) 4 0 = true := (emR_iff 4 0).mpr (fun k _ hk => by
                    have hk4 : k < 4 := by omega
                    unfold F4
                    simp only [if_pos hk4]
                    rcases xr_cases (f := B 3) (by omega) (hH.1 k hk4) with ⟨g1, g2⟩ | ⟨y, hy, g1, g2⟩
                    · exact g2
                    · have : any = true := hH.2.1.mpr ⟨k, hk4, by rw [g1]; exact nI_m5 (by omega)⟩
                      rw [ha] at this
                      cases this)
                  rw [c110] at z
                  cases z
              have hme : cfO X (F4 X) 4 0 = me := stH_conf hH h0.2 (fun k hk => if_pos hk) (hIX 21) (hIX 22)
              have c120 : X 0 0 ≤ 0 := by rw [eX 0 (by decide)]; exact c119
              have a2 : N 1 = 6 := by
                rcases Nat.lt_or_ge (N 1) 6 with z | z
                · exact absurd (nI_lt (b := 6) z (by decide)) c145
                · omega
              have a3 : X 17 0 = 6 := by rw [eX 17 (by decide), h1.1, a2]; rfl
              have es : sp_stage S x1 x2 x3 x4 = (-2, X) := by
                unfold sp_stage
                rw [← hX, he2, ha]
                show m_st2 X true me = (-2, X)
                unfold m_st2
                rw [if_pos rfl, if_pos c120, ← hme, c130, if_neg (by decide), if_pos a3]
              rw [es]
              exact ⟨rfl, mc, cap, B, N, t, rfl, hRX, hIX, Nat.le_refl t⟩
          · refine yr_bipush 135 C (-4) dX8_stage_133 rfl rfl ?_
            refine yr_iret C dX8_stage_135 hr (Nat.le_of_ble_eq_true rfl) (Nat.le_of_ble_eq_true rfl) ?_
            have hRX : RX dA t0 X (X 5) mc cap B N h := by
              rw [eX 5 (by decide)]
              exact RX_ext hR (fun r hr => eX r (fun z => hr (by simp at z; simp [z])))
            have he2 : m_stO X 4 0 false false = some (any, me) := he.symm
            have ha : any = true := by
              cases ha : any with
              | true => rfl
              | false =>
                have z : emR (fun k => xr (B 3) (F4 X k)) 4 0 = true := (emR_iff 4 0).mpr (fun k _ hk => by
                  have hk4 : k < 4 := by omega
                  unfold F4
                  simp only [if_pos hk4]
                  rcases xr_cases (f := B 3) (by omega) (hH.1 k hk4) with ⟨g1, g2⟩ | ⟨y, hy, g1, g2⟩
                  · exact g2
                  · have : any = true := hH.2.1.mpr ⟨k, hk4, by rw [g1]; exact nI_m5 (by omega)⟩
                    rw [ha] at this
                    cases this)
                rw [c110] at z
                cases z
            have hme : cfO X (F4 X) 4 0 = me := stH_conf hH h0.2 (fun k hk => if_pos hk) (hIX 21) (hIX 22)
            have c120 : X 0 0 ≤ 0 := by rw [eX 0 (by decide)]; exact c119
            have es : sp_stage S x1 x2 x3 x4 = (-4, X) := by
              unfold sp_stage
              rw [← hX, he2, ha]
              show m_st2 X true me = (-4, X)
              unfold m_st2
              rw [if_pos rfl, if_pos c120, ← hme, c130, if_pos rfl]
            rw [es]
            exact ⟨rfl, mc, cap, B, N, t, rfl, hRX, hIX, Nat.le_refl t⟩
        · refine yr_bipush 124 C (-3) dX8_stage_122 rfl rfl ?_
          refine yr_iret C dX8_stage_124 hr (Nat.le_of_ble_eq_true rfl) (Nat.le_of_ble_eq_true rfl) ?_
          have hRX : RX dA t0 X (X 5) mc cap B N h := by
            rw [eX 5 (by decide)]
            exact RX_ext hR (fun r hr => eX r (fun z => hr (by simp at z; simp [z])))
          have he2 : m_stO X 4 0 false false = some (any, me) := he.symm
          have ha : any = true := by
            cases ha : any with
            | true => rfl
            | false =>
              have z : emR (fun k => xr (B 3) (F4 X k)) 4 0 = true := (emR_iff 4 0).mpr (fun k _ hk => by
                have hk4 : k < 4 := by omega
                unfold F4
                simp only [if_pos hk4]
                rcases xr_cases (f := B 3) (by omega) (hH.1 k hk4) with ⟨g1, g2⟩ | ⟨y, hy, g1, g2⟩
                · exact g2
                · have : any = true := hH.2.1.mpr ⟨k, hk4, by rw [g1]; exact nI_m5 (by omega)⟩
                  rw [ha] at this
                  cases this)
              rw [c110] at z
              cases z
          have c120 : ¬ X 0 0 ≤ 0 := by rw [eX 0 (by decide)]; exact c119
          have es : sp_stage S x1 x2 x3 x4 = (-3, X) := by
            unfold sp_stage
            rw [← hX, he2, ha]
            show m_st2 X true me = (-3, X)
            unfold m_st2
            rw [if_pos rfl, if_neg c120]
          rw [es]
          exact ⟨rfl, mc, cap, B, N, t, rfl, hRX, hIX, Nat.le_refl t⟩
      · refine yr_iconst 114 C (-1) dX8_stage_113 rfl rfl ?_
        refine yr_iret C dX8_stage_114 hr (Nat.le_of_ble_eq_true rfl) (Nat.le_of_ble_eq_true rfl) ?_
        have hRX : RX dA t0 X (X 5) mc cap B N h := by
          rw [eX 5 (by decide)]
          exact RX_ext hR (fun r hr => eX r (fun z => hr (by simp at z; simp [z])))
        have he2 : m_stO X 4 0 false false = some (any, me) := he.symm
        have ha : any = false := by
          cases ha : any with
          | false => rfl
          | true =>
            obtain ⟨k, hk, q⟩ := hH.2.1.mp ha
            have z := (emR_iff 4 0).mp c110 k (by omega) (by omega)
            unfold F4 at z
            simp only [if_pos hk] at z
            rcases xr_cases (f := B 3) (by omega) (hH.1 k hk) with ⟨g1, g2⟩ | ⟨y, hy, g1, g2⟩
            · exact absurd g1 q
            · rw [g2] at z
              cases z
        have es : sp_stage S x1 x2 x3 x4 = (-1, X) := by
          unfold sp_stage
          rw [← hX, he2, ha]
          rfl
        rw [es]
        exact ⟨rfl, mc, cap, B, N, t, rfl, hRX, hIX, Nat.le_refl t⟩
    | succ j ih =>
      intro i any me hij hH he h hR
      have hW := hR
      replace hR := RX_sub hR0 hW.1
      refine yr_iload 43 C dX8_stage_41 rfl rfl ?_
      refine yr_aload 45 C dX8_stage_43 rfl rfl rfl ?_
      refine yr_alen 46 0 C (4) dX8_stage_45 hW.2.1 rfl rfl rfl ?_
      refine yr_icmp_ge 105 49 C  dX8_stage_46 (by decide) rfl (fun c46 => ?_) (fun c46 => ?_)
      · exact absurd c46 (nI_ge (b := 4) (by omega) (by decide))
      refine yr_aload 51 C dX8_stage_49 rfl rfl rfl ?_
      refine yr_iload 53 C dX8_stage_51 rfl rfl ?_
      refine xx_iald 54 C (X 52 i) dX8_stage_53 hW.2.1 (by omega) (by decide) (hnn i (by omega)) rfl ?_
      refine yr_bipush 56 C (-5) dX8_stage_54 rfl rfl ?_
      refine yr_icmp_ne 62 59 C  dX8_stage_56 (by decide) rfl (fun c56 => ?_) (fun c56 => ?_)
      · refine yr_aload_n 63 C dX8_stage_62 rfl rfl rfl ?_
        refine yr_aload 65 C dX8_stage_63 rfl rfl rfl ?_
        refine yr_iload 67 C dX8_stage_65 rfl rfl ?_
        refine xx_iald 68 C (X 52 i) dX8_stage_67 hW.2.1 (by omega) (by decide) (hnn i (by omega)) rfl ?_
        refine yr_V1v 71 C (xp_phaseAt (X 52 i) x0 _ (RX_ext hR (fun r hr => eX r (fun z => hr (by simp at z; simp [z]))))) dX8_stage_68 mt_X8_phaseAt mv_X8_phaseAt ml_X8_91 (rx0 hR) rfl (Nat.le_of_ble_eq_true rfl) (Nat.le_of_ble_eq_true rfl) (Nat.le_of_ble_eq_true rfl) (Nat.le_of_ble_eq_true rfl) (Nat.le_of_ble_eq_true rfl) rfl (fun h e => ?_)
        subst e
        rcases ph_cases (B := B) hIX (X 52 i) with ⟨e1, e2⟩ | ⟨j2, hj2, ej2, e1, e2⟩
        · rw [e2]
          refine yr_astore8 73 C dX8_stage_71 rfl (by decide) rfl ?_
          refine yr_aload 75 C dX8_stage_73 rfl rfl rfl ?_
          refine yr_ifnull_n 88 C dX8_stage_75 (by decide) ?_
          refine yr_iconst 89 C (-1) dX8_stage_88 rfl rfl ?_
          refine yr_iret C dX8_stage_89 hr (Nat.le_of_ble_eq_true rfl) (Nat.le_of_ble_eq_true rfl) ?_
          have hRX : RX dA t0 X (X 5) mc cap B N h := by
            rw [eX 5 (by decide)]
            exact RX_ext hR (fun r hr => eX r (fun z => hr (by simp at z; simp [z])))
          have en : m_stO X 4 0 false false = none := by
            rw [← he]
            have c57 : ¬ X 52 i = -5 := c56
            simp [m_stO, c57, e1]
          have es : sp_stage S x1 x2 x3 x4 = (-1, X) := by
            unfold sp_stage
            rw [← hX, en]
          rw [es]
          exact ⟨rfl, mc, cap, B, N, t, rfl, hRX, hIX, Nat.le_refl t⟩
        · rw [e2]
          refine yr_astore8 73 C dX8_stage_71 rfl (by decide) rfl ?_
          refine yr_aload 75 C dX8_stage_73 rfl rfl rfl ?_
          refine yr_ifnull_r 78 C dX8_stage_75 rfl ?_
          refine yr_aload 80 C dX8_stage_78 rfl rfl rfl ?_
          refine yr_aload 82 C dX8_stage_80 rfl rfl rfl ?_
          refine yr_V1v 85 C (xr_hasPhase a q7 (B 3 j2) _ _ _ hW.2.2.1) dX8_stage_82 mt_X7_hasPhase mv_X7_hasPhase ml_X8_105 hW.2.2.1.1 rfl (Nat.le_of_ble_eq_true rfl) (Nat.le_of_ble_eq_true rfl) (Nat.le_of_ble_eq_true rfl) (Nat.le_of_ble_eq_true rfl) (Nat.le_of_ble_eq_true rfl) rfl (fun h e => ?_)
          subst e
          refine yb_eq 90 88 C  dX8_stage_85 (by decide) rfl (fun c85 => ?_) (fun c85 => ?_)
          · refine yr_aload 92 C dX8_stage_90 rfl rfl rfl ?_
            refine yr_iload 94 C dX8_stage_92 rfl rfl ?_
            refine yr_aload 96 C dX8_stage_94 rfl rfl rfl ?_
            refine yr_V2u 99 C (xr_putPhase a q7 (B 3 j2) i (by omega) _ _ _ _ ⟨hW.2.2.1, rx3 hR hj2⟩) dX8_stage_96 mt_X7_putPhase mv_X7_putPhase ml_X8_116 hW.2.2.1.1 rfl (Nat.le_of_ble_eq_true rfl) (Nat.le_of_ble_eq_true rfl) (Nat.le_of_ble_eq_true rfl) (Nat.le_of_ble_eq_true rfl) (Nat.le_of_ble_eq_true rfl) rfl (fun h e => ?_)
            subst e
            replace hW := SW_put (g := va_up (fI B X i) i (some (B 3 j2))) hW
            replace hR := RX_sub hR0 hW.1
            generalize va_up h q7 (some (.inl (dA 4, 4, yQ (va_up (fI B X i) i (some (B 3 j2)))))) = h at hW hR ⊢
            refine yr_iinc7 102 C (1) dX8_stage_99 rfl (by decide) rfl ?_
            rw [nI_1]
            refine yr_goto 41 C dX8_stage_102 (by decide) ?_
            have hnR : m_stI X (nI j2) i 0 me ≠ none := fun z => by
              obtain ⟨k, _, hk, ek⟩ := (stI_none i 0 me).mp z
              have hk' : k < i := by omega
              have : hasR (fI B X i) (B 3 j2) 4 0 = true := (hasR_iff 4 0).mpr ⟨k, by omega, by omega, by unfold fI; rw [if_pos hk', ek, xr_nI (by omega)]⟩
              rw [c85] at this
              cases this
            cases hm : m_stI X (nI j2) i 0 me with
            | none => exact absurd hm hnR
            | some m2 =>
              refine yr_forget8 ?_
              exact ih (i + 1) true m2 (by omega) (stH_some hH hj2 h0.2 ej2 hm) (by
                rw [← he]
                have c57 : ¬ nI j2 = -5 := nI_m5 (by omega)
                rw [ej2] at e1
                simp [m_stO, ej2, c57, e1, hm]) h (by rw [fI_some (by omega) ej2]; exact hW)
          · refine yr_iconst 89 C (-1) dX8_stage_88 rfl rfl ?_
            refine yr_iret C dX8_stage_89 hr (Nat.le_of_ble_eq_true rfl) (Nat.le_of_ble_eq_true rfl) ?_
            have hRX : RX dA t0 X (X 5) mc cap B N h := by
              rw [eX 5 (by decide)]
              exact RX_ext hR (fun r hr => eX r (fun z => hr (by simp at z; simp [z])))
            have en : m_stO X 4 0 false false = none := by
              obtain ⟨k, _, hk, ek⟩ := (hasR_iff 4 0).mp c85
              have hki : k < i := by
                rcases Nat.lt_or_ge k i with z | z
                · exact z
                · unfold fI at ek
                  rw [if_neg (by omega)] at ek
                  cases ek
              unfold fI at ek
              rw [if_pos hki] at ek
              have ek2 : X 52 k = nI j2 := by
                rcases xr_cases (f := B 3) (by omega) (hH.1 k hki) with ⟨g1, g2⟩ | ⟨z, hz, g1, g2⟩
                · rw [g2] at ek
                  cases ek
                · rw [g2] at ek
                  rw [g1, (hR.2.1 3 z 3 j2 hz hj2 (Option.some.inj ek)).2]
              have hm : m_stI X (nI j2) i 0 me = none := (stI_none i 0 me).mpr ⟨k, by omega, by omega, ek2⟩
              rw [← he]
              have c57 : ¬ nI j2 = -5 := nI_m5 (by omega)
              rw [ej2] at e1
              simp [m_stO, ej2, c57, e1, hm]
            have es : sp_stage S x1 x2 x3 x4 = (-1, X) := by
              unfold sp_stage
              rw [← hX, en]
            rw [es]
            exact ⟨rfl, mc, cap, B, N, t, rfl, hRX, hIX, Nat.le_refl t⟩
      · refine yr_goto 99 C dX8_stage_59 (by decide) ?_
        refine yr_iinc7 102 C (1) dX8_stage_99 rfl (by decide) rfl ?_
        rw [nI_1]
        refine yr_goto 41 C dX8_stage_102 (by decide) ?_
        refine yr_forget8 ?_
        exact ih (i + 1) any me (by omega) (stH_none hH c56) (by rw [← he]; simp [m_stO, c56]) h (by rw [fI_none c56]; exact hW)
  exact loop41 4 0 false false rfl (stH_0 X (N 0)) rfl h (by rw [fI_0]; exact hW)
end X27
