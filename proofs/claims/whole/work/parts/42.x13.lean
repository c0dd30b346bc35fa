theorem anL_true (S : yS) : ∀ j i, m_anL S j i true = true
  | 0, _ => rfl
  | j + 1, i => by
    unfold m_anL
    rw [Bool.true_or]
    exact anL_true S j (i + 1)
theorem anL_iff (S : yS) : ∀ (j i : Nat) (a : Bool), m_anL S j i a = true ↔ (a = true ∨ ∃ s, i ≤ s ∧ s < i + j ∧ nI s ≠ S 34 0 ∧ ¬ m_asked S s < 0)
  | 0, i, a => by
    constructor
    · intro h
      exact Or.inl h
    · rintro (h | ⟨s, h1, h2, _⟩)
      · exact h
      · omega
  | j + 1, i, a => by
    unfold m_anL
    rw [anL_iff S j (i + 1)]
    constructor
    · rintro (h | ⟨s, h1, h2, h3⟩)
      · cases a with
        | true => exact Or.inl rfl
        | false =>
          right
          rw [Bool.false_or, Bool.and_eq_true, Bool.not_eq_true', Bool.not_eq_true', decide_eq_false_iff_not, decide_eq_false_iff_not] at h
          exact ⟨i, Nat.le_refl i, by omega, h.1, h.2⟩
      · exact Or.inr ⟨s, by omega, by omega, h3⟩
    · rintro (h | ⟨s, h1, h2, h3, h4⟩)
      · left
        rw [h, Bool.true_or]
      · by_cases c : s = i
        · subst c
          left
          simp [h3, h4]
        · exact Or.inr ⟨s, by omega, by omega, h3, h4⟩
theorem nextL_iff (S : yS) (ns : Nat) (hn : ns ≤ 6) (h0 : 0 < ns) : ∀ (j i : Nat) (f g : Int32), cO f ns → (¬ m_nextL S ns j i f g < 0 ↔ (¬ f < 0 ∨ ∃ s, i ≤ s ∧ s < i + j ∧ ¬ m_asked S ((m_lg S + s) % ns) < 0))
  | 0, i, f, g, _ => by
    constructor
    · intro h
      exact Or.inl h
    · rintro (h | ⟨s, h1, h2, _⟩)
      · exact h
      · omega
  | j + 1, i, f, g, hf => by
    have hm : (m_lg S + i) % ns < ns := Nat.mod_lt _ h0
    have hp : ¬ nI ((m_lg S + i) % ns) < 0 := nI_pos (by omega)
    have hc : cO (nI ((m_lg S + i) % ns)) ns := Or.inr ⟨_, hm, rfl⟩
    unfold m_nextL
    by_cases c : m_asked S ((m_lg S + i) % ns) < 0
    · rw [if_pos c, nextL_iff S ns hn h0 j (i + 1) f g hf]
      constructor
      · rintro (h | ⟨s, h1, h2, h3⟩)
        · exact Or.inl h
        · exact Or.inr ⟨s, by omega, by omega, h3⟩
      · rintro (h | ⟨s, h1, h2, h3⟩)
        · exact Or.inl h
        · by_cases e : s = i
          · subst e
            exact absurd c h3
          · exact Or.inr ⟨s, by omega, by omega, h3⟩
    · rw [if_neg c]
      have r : ¬ f < 0 ∨ ∃ s, i ≤ s ∧ s < i + (j + 1) ∧ ¬ m_asked S ((m_lg S + s) % ns) < 0 := Or.inr ⟨i, Nat.le_refl i, by omega, c⟩
      refine ⟨fun _ => r, fun _ => ?_⟩
      split
      · exact (nextL_iff S ns hn h0 j (i + 1) _ _ hc).mpr (Or.inl hp)
      · split
        · rename_i c1 c2
          exact (nextL_iff S ns hn h0 j (i + 1) _ _ hf).mpr (Or.inl c1)
        · exact (nextL_iff S ns hn h0 j (i + 1) _ _ hc).mpr (Or.inl hp)
theorem another_eq {S : yS} {ns : Nat} (hn : ns ≤ 6) (hh : cO (S 39 0) ns) (hl : S 38 0 = -1 ∨ ∃ s, s < ns ∧ S 38 0 = nI s) (h25 : ∀ s, s < ns → S 39 0 = nI s → S 34 0 ≠ nI s) (hga : ∀ g, g < ns → S 34 0 = nI g → m_asked S g < 0) : m_another S ns = !decide (m_next S ns < 0) := by
  rw [Bool.eq_iff_iff]
  have e1 : (!decide (m_next S ns < 0)) = true ↔ ¬ m_next S ns < 0 := by simp
  rw [e1]
  unfold m_another m_next
  rw [anL_iff]
  rcases hh with e | ⟨z, hz, e⟩
  · have c : S 39 0 < 0 := by rw [e]; decide
    rw [if_pos c]
    have e2 : (!decide (S 39 0 < 0) && !decide (S 39 0 = S 34 0)) = false := by simp [c]
    rw [e2]
    by_cases h0 : 0 < ns
    · rw [nextL_iff S ns hn h0 ns 0 (-5) 0 (Or.inl rfl)]
      obtain ⟨b, hb, eb, _⟩ := m_lg_eq hn hl
      rw [eb]
      constructor
      · rintro (h | ⟨s, h1, h2, h3, h4⟩)
        · cases h
        · right
          by_cases d : b ≤ s
          · refine ⟨s - b, by omega, by omega, ?_⟩
            rw [show b + (s - b) = s by omega, Nat.mod_eq_of_lt (by omega)]
            exact h4
          · refine ⟨s + ns - b, by omega, by omega, ?_⟩
            rw [show b + (s + ns - b) = s + ns by omega, Nat.add_mod_right, Nat.mod_eq_of_lt (by omega)]
            exact h4
      · rintro (h | ⟨s, h1, h2, h3⟩)
        · exact absurd (by decide) h
        · right
          have hm : (b + s) % ns < ns := Nat.mod_lt _ h0
          exact ⟨(b + s) % ns, by omega, by omega, fun q => h3 (hga _ hm q.symm), h3⟩
    · have : ns = 0 := by omega
      subst this
      constructor
      · rintro (h | ⟨s, h1, h2, _⟩)
        · cases h
        · omega
      · intro h
        exact absurd (show (-5 : Int32) < 0 by decide) h
  · have c : ¬ S 39 0 < 0 := by rw [e]; exact nI_pos (by omega)
    rw [if_neg c]
    refine ⟨fun _ => c, fun _ => Or.inl ?_⟩
    have := h25 z hz e
    have d : ¬ S 39 0 = S 34 0 := fun q => this (by rw [← q, e])
    simp [c, d]
theorem great_eq {S : yS} {g np : Nat} (hn : np ≤ 8) (h18 : ∀ k, k < 4 → cO (S 18 (4 * g + k)) np) (h12 : ∀ p, p < np → ∃ k, k ≤ 120 ∧ S 12 p = nI k) (h23 : ∃ k, k < 4 ∧ S 18 (4 * g + k) ≠ -5) : jmax (m_greatL S g 4 0 120) (m_least S g) = m_great S g := by
  have st : ∀ j i, i + j = 4 → (∃ k, i ≤ k ∧ k < 4 ∧ S 18 (4 * g + k) ≠ -5) → m_greatL S g j i 120 = m_greatL S g j i 1000 := by
    intro j
    induction j with
    | zero =>
      intro i hij ⟨k, h1, h2, _⟩
      omega
    | succ j ih =>
      intro i hij ⟨k, h1, h2, h3⟩
      unfold m_greatL
      rcases h18 i (by omega) with e | ⟨p, hp, e⟩
      · have e2 : ∀ x, m_greatS S (S 18 (4 * g + i)) x = x := fun x => by
          unfold m_greatS
          rw [e, if_pos (by decide)]
        rw [e2, e2]
        refine ih (i + 1) (by omega) ⟨k, ?_, h2, h3⟩
        rcases (by omega : k = i ∨ i + 1 ≤ k) with q | q
        · rw [q] at h3
          exact absurd e h3
        · exact q
      · obtain ⟨c, hc, ec⟩ := h12 p hp
        have e3 : m_greatS S (S 18 (4 * g + i)) 120 = nI c := by
          unfold m_greatS
          rw [e, if_neg (nI_pos (by omega)), ix_nI (by omega), ec]
          by_cases q : (120 : Int32) ≤ nI c
          · rw [if_pos q]
            have : 120 ≤ c := (nI_leI (a := 120) (by omega) (by omega)).mp q
            rw [show c = 120 by omega]
            rfl
          · rw [if_neg q]
        have e4 : m_greatS S (S 18 (4 * g + i)) 1000 = nI c := by
          unfold m_greatS
          rw [e, if_neg (nI_pos (by omega)), ix_nI (by omega), ec, if_neg (show ¬ (1000 : Int32) ≤ nI c from nI_ge (b := 1000) (by omega) (by decide))]
        rw [e3, e4]
  obtain ⟨k, hk, hk2⟩ := h23
  rw [st 4 0 rfl ⟨k, Nat.zero_le k, hk, hk2⟩, jmax_le]
  unfold m_great
  rfl
theorem mayL_red {S : yS} {g np : Nat} (hn : np ≤ 8) : ∀ (j i : Nat), i + j = 4 → m_mayL S g j i = true → ∀ k, i ≤ k → k < 4 → ∀ p, S 18 (4 * g + k) = nI p → p < np → S 3 p = 0
  | 0, i, hij, _, k, h1, h2, _, _, _ => by omega
  | j + 1, i, hij, hm, k, h1, h2, p, e, hp => by
    unfold m_mayL at hm
    by_cases c : k = i
    · subst c
      rw [e, if_neg (nI_pos (by omega)), ix_nI (by omega)] at hm
      by_cases d : S 3 p = 0
      · exact d
      · rw [if_neg d] at hm
        cases hm
    · have hm2 : m_mayL S g j (i + 1) = true := by
        repeat' split at hm
        all_goals first | exact hm | cases hm
      exact mayL_red hn j (i + 1) (by omega) hm2 k (by omega) h2 p e hp
theorem m_rd_keep {S : yS} {i p : Nat} (h : S 3 p = 1) : m_rd S i 10 p = S 10 p := by
  have r1 := m_doesHold_rw S i
  have r2 := m_doesAsk_rw S i
  unfold m_rd
  by_cases c : S 3 i = 1
  · rw [if_pos c, mset_ne _ _ (by decide), r1 10 (by decide)]
  · have ne : p ≠ i := fun z => c (by rw [← z]; exact h)
    rw [if_neg c]
    repeat' split
    all_goals first | rfl | rw [r2 10 (by decide)] | rw [mset_at, if_neg ne, r2 10 (by decide)]
theorem m_rdL_keep {p : Nat} : ∀ (j i : Nat) {S : yS}, S 3 p = 1 → m_rdL j i S 10 p = S 10 p
  | 0, _, _, _ => rfl
  | j + 1, i, S, h => by
    show m_rdL j (i + 1) (m_rd S i) 10 p = S 10 p
    rw [m_rdL_keep j (i + 1) (by rw [m_rd_rw S i 3 (by decide)]; exact h), m_rd_keep h]
theorem m_rdL_ask {np t : Nat} : ∀ (j i : Nat) {S : yS}, S 0 0 = nI t → (∀ p, p < np → cO (S 10 p) (t + 1)) → ∀ p, p < np → cO (m_rdL j i S 10 p) (t + 1)
  | 0, _, _, _, h => h
  | j + 1, i, S, h0, h => m_rdL_ask j (i + 1) (by rw [m_rd_rw S i 0 (by decide)]; exact h0) (m_rd_ask h0 h i)
theorem hga2 {S : yS} {np ns : Nat} (hn : np ≤ 8) (h9 : ∀ s, s < ns → ∀ k, k < 4 → cO (S 18 (4 * s + k)) np) (h24 : ∀ s, s < ns → S 34 0 = nI s → ∀ k, k < 4 → ∀ p, S 18 (4 * s + k) = nI p → p < np → S 10 p = -5) : ∀ g, g < ns → S 34 0 = nI g → m_asked S g < 0 := by
  intro g hg e
  have st : ∀ (j i : Nat), i + j = 4 → m_askL S g j i (-5) = -5 := by
    intro j
    induction j with
    | zero => intro i _; rfl
    | succ j ih =>
      intro i hij
      have q : m_askS S (S 18 (4 * g + i)) (-5) = -5 := by
        unfold m_askS
        rcases h9 g hg i (by omega) with e1 | ⟨z, hz, e1⟩
        · rw [e1, if_pos (by decide)]
        · rw [e1, if_neg (nI_pos (by omega)), ix_nI (by omega), h24 g hg e i (by omega) z e1 hz, if_pos (by decide)]
      show m_askL S g j (i + 1) (m_askS S (S 18 (4 * g + i)) (-5)) = -5
      rw [q]
      exact ih (i + 1) (by omega)
  unfold m_asked
  rw [st 4 0 rfl]
  decide
theorem leastL_cong {S S' : yS} (h1 : S' 11 = S 11) (h2 : S' 18 = S 18) (g : Nat) : ∀ j i x, m_leastL S' g j i x = m_leastL S g j i x
  | 0, _, _ => rfl
  | j + 1, i, x => by
    unfold m_leastL m_leastS
    rw [h1, h2]
    exact leastL_cong h1 h2 g j (i + 1) _
theorem least_cong {S S' : yS} (h1 : S' 11 = S 11) (h2 : S' 18 = S 18) (g : Nat) : m_least S' g = m_least S g := leastL_cong h1 h2 g 4 0 0
theorem greatL_cong {S S' : yS} (h1 : S' 12 = S 12) (h2 : S' 18 = S 18) (g : Nat) : ∀ j i x, m_greatL S' g j i x = m_greatL S g j i x
  | 0, _, _ => rfl
  | j + 1, i, x => by
    unfold m_greatL m_greatS
    rw [h1, h2]
    exact greatL_cong h1 h2 g j (i + 1) _
theorem great_cong {S S' : yS} (h0 : S' 11 = S 11) (h1 : S' 12 = S 12) (h2 : S' 18 = S 18) (g : Nat) : m_great S' g = m_great S g := by
  unfold m_great
  rw [greatL_cong h1 h2, least_cong h0 h2]
theorem mB_35 {S : yS} {np ns nd nr t : Nat} (hB : mB S np ns nd nr t) : mB (mset S 35 0 (nI t)) np ns nd nr t := by
  have e : ∀ k, k ≠ 35 → mset S 35 0 (nI t) k = S k := fun k h => mset_ne _ _ h
  intro i
  have := hB i
  match i, this with
  | 0, q => simpa [mK, e] using q
  | 1, q => simpa [mK, e] using q
  | 2, q => simpa [mK, e] using q
  | 3, q => simpa [mK, e] using q
  | 4, q => simpa [mK, e] using q
  | 5, q => simpa [mK, e] using q
  | 6, q => simpa [mK, e] using q
  | 7, q => simpa [mK, e] using q
  | 8, q => simpa [mK, e] using q
  | 9, _ => exact ⟨t, Nat.le_refl t, mset_same _ _ _ _⟩
  | (_ + 10), _ => trivial
/-- no phase twice in a stage -/
def mDst (S : yS) (ns : Nat) : Prop := ∀ s, s < ns → ∀ k k', k < k' → k' < 4 → ∀ p, p < 8 → S 18 (4 * s + k) = nI p → S 18 (4 * s + k') ≠ nI p
theorem pEnd_34 {S : yS} {np ns : Nat} (h : cO (S 34 0) ns) : cO (m_pEnd S np ns 34 0) ns := by
  unfold m_pEnd
  repeat' split
  all_goals first | exact h | (rw [mset_same]; exact Or.inl rfl)
section X13
variable {D : va_G} {dA : Nat → ClassId} {t0 mi : Nat} {S : yS} {lf mc : Nat → Int32} {cap : Nat → Nat} {B : Nat → Nat → Nat} {N : Nat → Nat}
variable {t : Nat}
set_option maxHeartbeats 4000000 in
set_option maxRecDepth 100000 in
theorem xc_endsIn (g : Nat) (hg : g < N 1) (hB : mB S (N 0) (N 1) (N 2) (N 4) t) (ha : ∀ p, p < N 0 → cO (S 10 p) (t + 1)) (hh : cO (S 39 0) (N 1)) (hgr : cO (S 34 0) (N 1)) (hl : S 38 0 = -1 ∨ ∃ s, s < N 1 ∧ S 38 0 = nI s) (hga : ∀ g, g < N 1 → S 34 0 = nI g → m_asked S g < 0) (h25 : ∀ s, s < N 1 → S 39 0 = nI s → S 34 0 ≠ nI s) (h : yH) (hR : RX dA t0 (S) lf mc cap B N h) : yM (yZ t0 mi D dA) D yX8_endsIn cX8_endsIn 4 (some .boolean) 4 0 0 [.ref (B 0 0), .ref (B 6 g), .int (nI t)] h (fun r h' => r = some (.int (bI (m_another S (N 1) && (decide (S 36 0 ≤ S 0 0 - S 35 0) && m_ends S g)))) ∧ RX dA t0 (S) lf mc cap B N h') := by
  refine yM_of (yZ_ok t0 mi D dA) (by decide) rfl (Nat.le_of_ble_eq_true rfl) ?_
  intro p l e s m args below meth c A C hr hin
  show yW p l e (yR 4 0 0) s m args below meth c 4 D A 0 0 _ 0 [some (.ref (B 0 0)), some (.ref (B 6 g)), some (.int (nI t)), none] [] h
  have n0 : S 1 0 = nI (N 0) ∧ N 0 ≤ 8 := hB 0
  have n1 : S 17 0 = nI (N 1) ∧ N 1 ≤ 6 := hB 1
  have n4 : S 29 0 = nI (N 4) ∧ N 4 ≤ 6 := hB 2
  have k3 : S 0 0 = nI t ∧ t < 2 ^ 20 ∧ N 2 ≤ 12 := hB 3
  refine yr_iload_n 1 C dX8_endsIn_0 rfl rfl ?_
  refine yr_aload_n 2 C dX8_endsIn_1 rfl rfl rfl ?_
  refine yr_get 5 C dX8_endsIn_2 fl_X8_60 (rx0 hR) rfl rfl ?_
  refine yr_isub 6 C dX8_endsIn_5 rfl ?_
  refine yr_istore3 7 C dX8_endsIn_6 (by decide) rfl ?_
  refine yr_aload_n 8 C dX8_endsIn_7 rfl rfl rfl ?_
  refine yr_V0v 11 C (xc_nextStage hB ha hh hgr hl hga _ hR) dX8_endsIn_8 mt_X8_nextStage mv_X8_nextStage ml_X8_211 (rx0 hR) rfl (Nat.le_of_ble_eq_true rfl) (Nat.le_of_ble_eq_true rfl) (Nat.le_of_ble_eq_true rfl) (Nat.le_of_ble_eq_true rfl) (Nat.le_of_ble_eq_true rfl) rfl (fun h hR => ?_)
  rcases xr_cases (f := B 6) (by omega) (m_next_cO (ns := N 1) hh) with ⟨g1, g2⟩ | ⟨z, hz, g1, g2⟩
  · rw [g2]
    refine yr_ifnull_n 22 C dX8_endsIn_11 (by decide) ?_
    refine yr_iconst 23 C (0) dX8_endsIn_22 rfl rfl ?_
    refine yr_zret C dX8_endsIn_23 hr ?_ (Nat.le_of_ble_eq_true rfl) (Nat.le_of_ble_eq_true rfl) ?_
    · first | exact bI_or _ | exact Or.inl rfl | exact Or.inr rfl
    have ea := another_eq n1.2 hh hl h25 hga
    refine ⟨?_, hR⟩
    rw [ea]
    unfold m_ends
    rw [k3.1]
    have a1 : m_next S (N 1) < 0 := by rw [g1]; decide
    simp [a1, bI]
  · rw [g2]
    refine yr_ifnull_r 14 C dX8_endsIn_11 rfl ?_
    refine yr_iload_n 15 C dX8_endsIn_14 rfl rfl ?_
    refine yr_aload_n 16 C dX8_endsIn_15 rfl rfl rfl ?_
    refine yr_get 19 C dX8_endsIn_16 fl_X8_63 (rx0 hR) rfl rfl ?_
    refine yr_icmp_ge 24 22 C  dX8_endsIn_19 (by decide) rfl (fun c19 => ?_) (fun c19 => ?_)
    · refine yr_iload_n 25 C dX8_endsIn_24 rfl rfl ?_
      refine yr_aload_n 26 C dX8_endsIn_25 rfl rfl rfl ?_
      refine yr_get 29 C dX8_endsIn_26 fl_X8_66 (rx0 hR) rfl rfl ?_
      refine yr_icmp_ge 46 32 C  dX8_endsIn_29 (by decide) rfl (fun c29 => ?_) (fun c29 => ?_)
      · refine yr_iconst 47 C (1) dX8_endsIn_46 rfl rfl ?_
        refine yr_goto 51 C dX8_endsIn_47 (by decide) ?_
        refine yr_zret C dX8_endsIn_51 hr ?_ (Nat.le_of_ble_eq_true rfl) (Nat.le_of_ble_eq_true rfl) ?_
        · first | exact bI_or _ | exact Or.inl rfl | exact Or.inr rfl
        have ea := another_eq n1.2 hh hl h25 hga
        refine ⟨?_, hR⟩
        rw [ea]
        unfold m_ends
        rw [k3.1]
        have a1 : ¬ m_next S (N 1) < 0 := by rw [g1]; exact nI_pos (by omega)
        simp [a1, c19, c29, bI]
      · refine yr_aload_n 33 C dX8_endsIn_32 rfl rfl rfl ?_
        refine yr_get 36 C dX8_endsIn_33 fl_X8_69 (rx0 hR) rfl rfl ?_
        rcases xr_cases (f := B 6) (by omega) hh with ⟨u1, u2⟩ | ⟨z2, hz2, u1, u2⟩
        · rw [u2]
          refine yr_ifnonnull_n 39 C dX8_endsIn_36 rfl ?_
          refine yr_aload_n 40 C dX8_endsIn_39 rfl rfl rfl ?_
          refine yr_V0v 43 C (xc_isHeld _ hg hB _ hR) dX8_endsIn_40 mt_X7_isHeld mv_X7_isHeld ml_X8_349 (rx6 hR hg) rfl (Nat.le_of_ble_eq_true rfl) (Nat.le_of_ble_eq_true rfl) (Nat.le_of_ble_eq_true rfl) (Nat.le_of_ble_eq_true rfl) (Nat.le_of_ble_eq_true rfl) rfl (fun h hR => ?_)
          refine yb_ne 50 46 C  dX8_endsIn_43 (by decide) rfl (fun c43 => ?_) (fun c43 => ?_)
          · refine yr_iconst 51 C (0) dX8_endsIn_50 rfl rfl ?_
            refine yr_zret C dX8_endsIn_51 hr ?_ (Nat.le_of_ble_eq_true rfl) (Nat.le_of_ble_eq_true rfl) ?_
            · first | exact bI_or _ | exact Or.inl rfl | exact Or.inr rfl
            have ea := another_eq n1.2 hh hl h25 hga
            refine ⟨?_, hR⟩
            rw [ea]
            unfold m_ends
            rw [k3.1]
            have a1 : ¬ m_next S (N 1) < 0 := by rw [g1]; exact nI_pos (by omega)
            have a2 : ¬ 0 ≤ S 39 0 := by rw [u1]; decide
            simp [a1, c19, c29, a2, c43, bI]
          · refine yr_iconst 47 C (1) dX8_endsIn_46 rfl rfl ?_
            refine yr_goto 51 C dX8_endsIn_47 (by decide) ?_
            refine yr_zret C dX8_endsIn_51 hr ?_ (Nat.le_of_ble_eq_true rfl) (Nat.le_of_ble_eq_true rfl) ?_
            · first | exact bI_or _ | exact Or.inl rfl | exact Or.inr rfl
            have ea := another_eq n1.2 hh hl h25 hga
            refine ⟨?_, hR⟩
            rw [ea]
            unfold m_ends
            rw [k3.1]
            have a1 : ¬ m_next S (N 1) < 0 := by rw [g1]; exact nI_pos (by omega)
            have a2 : ¬ 0 ≤ S 39 0 := by rw [u1]; decide
            simp [a1, c19, c29, a2, c43, bI]
        · rw [u2]
          refine yr_ifnonnull_r 46 C dX8_endsIn_36 (by decide) ?_
          refine yr_iconst 47 C (1) dX8_endsIn_46 rfl rfl ?_
          refine yr_goto 51 C dX8_endsIn_47 (by decide) ?_
          refine yr_zret C dX8_endsIn_51 hr ?_ (Nat.le_of_ble_eq_true rfl) (Nat.le_of_ble_eq_true rfl) ?_
          · first | exact bI_or _ | exact Or.inl rfl | exact Or.inr rfl
          have ea := another_eq n1.2 hh hl h25 hga
          refine ⟨?_, hR⟩
          rw [ea]
          unfold m_ends
          rw [k3.1]
          have a1 : ¬ m_next S (N 1) < 0 := by rw [g1]; exact nI_pos (by omega)
          have a2 : 0 ≤ S 39 0 := by rw [u1]; exact nI_pos' (by omega)
          simp [a1, c19, a2, bI]
    · refine yr_iconst 23 C (0) dX8_endsIn_22 rfl rfl ?_
      refine yr_zret C dX8_endsIn_23 hr ?_ (Nat.le_of_ble_eq_true rfl) (Nat.le_of_ble_eq_true rfl) ?_
      · first | exact bI_or _ | exact Or.inl rfl | exact Or.inr rfl
      have ea := another_eq n1.2 hh hl h25 hga
      refine ⟨?_, hR⟩
      rw [ea]
      unfold m_ends
      rw [k3.1]
      have a1 : ¬ m_next S (N 1) < 0 := by rw [g1]; exact nI_pos (by omega)
      simp [c19, bI]
set_option maxHeartbeats 4000000 in
set_option maxRecDepth 100000 in
theorem xc_endStage (g : Nat) (hg : g < N 1) (hlf : lf = S 5) (hG : mG S (N 0) t) (h13 : ∀ p, p < N 0 → ∃ k, k ≤ 9 ∧ S 13 p = nI k) (hB : mB S (N 0) (N 1) (N 2) (N 4) t) (h : yH) (hR : RX dA t0 (S) lf mc cap B N h) : yM (yZ t0 mi D dA) D yX8_endStage cX8_endStage 7 none 4 0 0 [.ref (B 0 0), .ref (B 6 g), .int (nI t)] h (fun r h' => r = none ∧ RX dA t0 (mset (m_peL (N 0) g 4 0 S) 34 0 (-5)) (mset (m_peL (N 0) g 4 0 S) 34 0 (-5) 5) mc cap B N h') := by
  refine yM_of (yZ_ok t0 mi D dA) (by decide) rfl (Nat.le_of_ble_eq_true rfl) ?_
  intro p l e s m args below meth c A C hr hin
  show yW p l e (yR 4 0 0) s m args below meth c 7 D A 0 0 _ 0 [some (.ref (B 0 0)), some (.ref (B 6 g)), some (.int (nI t)), none, none, none, none] [] h
  subst hlf
  have n0 : S 1 0 = nI (N 0) ∧ N 0 ≤ 8 := hB 0
  have n1 : S 17 0 = nI (N 1) ∧ N 1 ≤ 6 := hB 1
  have n4 : S 29 0 = nI (N 4) ∧ N 4 ≤ 6 := hB 2
  have k3 : S 0 0 = nI t ∧ t < 2 ^ 20 ∧ N 2 ≤ 12 := hB 3
  refine yr_aload_n 1 C dX8_endStage_0 rfl rfl rfl ?_
  refine yr_get 4 C dX8_endStage_1 fl_X8_352 (rx6 hR hg) rfl rfl ?_
  refine yr_astore3 5 C dX8_endStage_4 rfl (by decide) rfl ?_
  refine yr_aload_n 6 C dX8_endStage_5 rfl rfl rfl ?_
  refine yr_alen 7 4 C (4) dX8_endStage_6 (rx7 hR hg) rfl rfl rfl ?_
  refine yr_istore4 9 C dX8_endStage_7 (by decide) rfl ?_
  refine yr_iconst 10 C (0) dX8_endStage_9 rfl rfl ?_
  refine yr_istore5 12 C dX8_endStage_10 (by decide) rfl ?_
  have loop12 : ∀ (j i : Nat) (X : yS), i + j = 4 → mB X (N 0) (N 1) (N 2) (N 4) t → mG X (N 0) t → X 13 = S 13 → m_peL (N 0) g j i X = m_peL (N 0) g 4 0 S → ∀ h : yH, RX dA t0 (X) (X 5) mc cap B N h → yW p l e (yR 4 0 0) s m args below meth c 7 D A 0 0 (yF D A (fun r h' => r = none ∧ RX dA t0 (mset (m_peL (N 0) g 4 0 S) 34 0 (-5)) (mset (m_peL (N 0) g 4 0 S) 34 0 (-5) 5) mc cap B N h') below args s 0 0) 12 [some (.ref (B 0 0)), some (.ref (B 6 g)), some (.int (nI t)), some (.ref (B 7 g)), some (.int 4), some (.int (nI i)), none] [] h := by
    intro j
    induction j with
    | zero =>
      intro i X hij hX hGX h13X he h hR
      have n0 : X 1 0 = nI (N 0) ∧ N 0 ≤ 8 := hX 0
      have n1 : X 17 0 = nI (N 1) ∧ N 1 ≤ 6 := hX 1
      have n4 : X 29 0 = nI (N 4) ∧ N 4 ≤ 6 := hX 2
      have k3 : X 0 0 = nI t ∧ t < 2 ^ 20 ∧ N 2 ≤ 12 := hX 3
      refine yr_iload 14 C dX8_endStage_12 rfl rfl ?_
      refine yr_iload 16 C dX8_endStage_14 rfl rfl ?_
      refine yr_icmp_ge 72 19 C  dX8_endStage_16 (by decide) rfl (fun c16 => ?_) (fun c16 => ?_)
      rotate_left
      · exact absurd (by rw [show i = 4 by omega]; decide) c16
      refine yr_aload_n 73 C dX8_endStage_72 rfl rfl rfl ?_
      refine yr_null 74 C dX8_endStage_73 rfl ?_
      refine xx_put 77 C dX8_endStage_74 fp_X8_56 (rx0 hR) (Nat.le_of_ble_eq_true rfl) rfl rfl (ru0_10 hR (-5) .null (by rw [xr_m5]; rfl)) rfl (fun h hR => ?_)
      refine yr_vret C dX8_endStage_77 hr (Nat.le_of_ble_eq_true rfl) (Nat.le_of_ble_eq_true rfl) ?_
      have he2 : X = m_peL (N 0) g 4 0 S := he
      rw [mset_ne _ _ (by decide), ← he2]
      exact ⟨rfl, hR⟩
    | succ j ih =>
      intro i X hij hX hGX h13X he h hR
      have n0 : X 1 0 = nI (N 0) ∧ N 0 ≤ 8 := hX 0
      have n1 : X 17 0 = nI (N 1) ∧ N 1 ≤ 6 := hX 1
      have n4 : X 29 0 = nI (N 4) ∧ N 4 ≤ 6 := hX 2
      have k3 : X 0 0 = nI t ∧ t < 2 ^ 20 ∧ N 2 ≤ 12 := hX 3
      have q7 : cO (X 18 (4 * g + i)) (N 0) := (show ∀ s, s < N 1 → ∀ k, k < 4 → cO (X 18 (4 * s + k)) (N 0) from hX 7) g hg i (by omega)
      refine yr_iload 14 C dX8_endStage_12 rfl rfl ?_
      refine yr_iload 16 C dX8_endStage_14 rfl rfl ?_
      refine yr_icmp_ge 72 19 C  dX8_endStage_16 (by decide) rfl (fun c16 => ?_) (fun c16 => ?_)
      · exact absurd c16 (nI_ge (b := 4) (by omega) (by decide))
      refine yr_aload_n 20 C dX8_endStage_19 rfl rfl rfl ?_
      refine yr_iload 22 C dX8_endStage_20 rfl rfl ?_
      refine xx_place 23 C hR hg (by omega) n0.2 q7 dX8_endStage_22 rfl (fun en => ?_) (fun z hz ez => ?_)
      · refine yr_astore6 25 C dX8_endStage_23 rfl (by decide) rfl ?_
        refine yr_aload 27 C dX8_endStage_25 rfl rfl rfl ?_
        refine yr_ifnonnull_n 30 C dX8_endStage_27 rfl ?_
        refine yr_goto 66 C dX8_endStage_30 (by decide) ?_
        refine yr_iinc5 69 C (1) dX8_endStage_66 rfl (by decide) rfl ?_
        rw [nI_1]
        refine yr_goto 12 C dX8_endStage_69 (by decide) ?_
        have hq : m_peS (N 0) g X i = X := by unfold m_peS; rw [if_pos (by rw [en]; decide)]
        refine yr_forget6 ?_
        exact ih (i + 1) (m_peS (N 0) g X i) (by omega) (by rw [hq]; exact hX) (by rw [hq]; exact hGX) (by rw [hq]; exact h13X) he h (by rw [hq]; exact hR)
      · refine yr_astore6 25 C dX8_endStage_23 rfl (by decide) rfl ?_
        refine yr_aload 27 C dX8_endStage_25 rfl rfl rfl ?_
        refine yr_ifnonnull_r 33 C dX8_endStage_27 (by decide) ?_
        refine yr_aload_n 34 C dX8_endStage_33 rfl rfl rfl ?_
        refine yr_aload 36 C dX8_endStage_34 rfl rfl rfl ?_
        refine yr_aload 38 C dX8_endStage_36 rfl rfl rfl ?_
        refine yr_get 41 C dX8_endStage_38 fl_X8_247 (rx3 hR hz) rfl rfl ?_
        refine yr_if_ne 48 44 C  dX8_endStage_41 (by decide) rfl (fun c41 => ?_) (fun c41 => ?_)
        · refine yr_iconst 49 C (2) dX8_endStage_48 rfl rfl ?_
          refine yr_iload_n 50 C dX8_endStage_49 rfl rfl ?_
          refine yr_V3u 53 C (xc_changeLight z hz _ rfl (hGX z hz) hX _ hR) dX8_endStage_50 mt_X8_changeLight mv_X8_changeLight ml_X8_356 (rx0 hR) rfl (Nat.le_of_ble_eq_true rfl) (Nat.le_of_ble_eq_true rfl) (Nat.le_of_ble_eq_true rfl) (Nat.le_of_ble_eq_true rfl) (Nat.le_of_ble_eq_true rfl) rfl (fun h hR => ?_)
          refine yr_aload_n 54 C dX8_endStage_53 rfl rfl rfl ?_
          refine yr_aload 56 C dX8_endStage_54 rfl rfl rfl ?_
          refine yr_iload_n 57 C dX8_endStage_56 rfl rfl ?_
          refine yr_aload 59 C dX8_endStage_57 rfl rfl rfl ?_
          refine yr_get 62 C dX8_endStage_59 fl_X8_247 (rx3 hR hz) rfl rfl ?_
          refine yr_iadd 63 C dX8_endStage_62 rfl ?_
          refine yr_V2u 66 C (xc_setEnd z hz _ (mB_fr hX (m_change_fr X z _)) _ hR) dX8_endStage_63 mt_X8_setEnd mv_X8_setEnd ml_X8_360 (rx0 hR) rfl (Nat.le_of_ble_eq_true rfl) (Nat.le_of_ble_eq_true rfl) (Nat.le_of_ble_eq_true rfl) (Nat.le_of_ble_eq_true rfl) (Nat.le_of_ble_eq_true rfl) rfl (fun h hR => ?_)
          refine yr_iinc5 69 C (1) dX8_endStage_66 rfl (by decide) rfl ?_
          rw [nI_1]
          refine yr_goto 12 C dX8_endStage_69 (by decide) ?_
          have a13 : ¬ X 13 z ≤ 0 := by
            obtain ⟨k, hk, ek⟩ := (show ∃ k, k ≤ 9 ∧ X 13 z = nI k by rw [h13X]; exact h13 z hz)
            rw [ek] at c41 ⊢
            rcases Nat.eq_zero_or_pos k with q | q
            · rw [q] at c41
              exact absurd rfl c41
            · exact nI_ge (a := 0) q (by omega)
          have hq : m_peS (N 0) g X i = m_endsIn (m_change X z 2) (N 0) z (nI t + m_change X z 2 13 z) := by
            unfold m_peS
            rw [ez, if_neg (nI_pos (by omega)), ix_nI (by omega), if_neg a13, m_change_rw X z 2 0 (by decide), k3.1]
          refine yr_forget6 ?_
          exact ih (i + 1) (m_peS (N 0) g X i) (by omega) (mB_fr hX (mFr_rw (m_peS_rw (N 0) g X i) rfl)) (by rw [hq]; exact mG_endsIn (mG_change hGX (by decide))) (by rw [m_peS_rw (N 0) g X i 13 (by decide)]; exact h13X) he h (by rw [hq, m_endsIn_rw _ _ _ _ 5 (by decide)]; exact hR)
        · refine yr_iconst 45 C (0) dX8_endStage_44 rfl rfl ?_
          refine yr_goto 49 C dX8_endStage_45 (by decide) ?_
          refine yr_iload_n 50 C dX8_endStage_49 rfl rfl ?_
          refine yr_V3u 53 C (xc_changeLight z hz _ rfl (hGX z hz) hX _ hR) dX8_endStage_50 mt_X8_changeLight mv_X8_changeLight ml_X8_356 (rx0 hR) rfl (Nat.le_of_ble_eq_true rfl) (Nat.le_of_ble_eq_true rfl) (Nat.le_of_ble_eq_true rfl) (Nat.le_of_ble_eq_true rfl) (Nat.le_of_ble_eq_true rfl) rfl (fun h hR => ?_)
          refine yr_aload_n 54 C dX8_endStage_53 rfl rfl rfl ?_
          refine yr_aload 56 C dX8_endStage_54 rfl rfl rfl ?_
          refine yr_iload_n 57 C dX8_endStage_56 rfl rfl ?_
          refine yr_aload 59 C dX8_endStage_57 rfl rfl rfl ?_
          refine yr_get 62 C dX8_endStage_59 fl_X8_247 (rx3 hR hz) rfl rfl ?_
          refine yr_iadd 63 C dX8_endStage_62 rfl ?_
          refine yr_V2u 66 C (xc_setEnd z hz _ (mB_fr hX (m_change_fr X z _)) _ hR) dX8_endStage_63 mt_X8_setEnd mv_X8_setEnd ml_X8_360 (rx0 hR) rfl (Nat.le_of_ble_eq_true rfl) (Nat.le_of_ble_eq_true rfl) (Nat.le_of_ble_eq_true rfl) (Nat.le_of_ble_eq_true rfl) (Nat.le_of_ble_eq_true rfl) rfl (fun h hR => ?_)
          refine yr_iinc5 69 C (1) dX8_endStage_66 rfl (by decide) rfl ?_
          rw [nI_1]
          refine yr_goto 12 C dX8_endStage_69 (by decide) ?_
          have a13 : X 13 z ≤ 0 := by rw [c41]; decide
          have hq : m_peS (N 0) g X i = m_endsIn (m_change X z 0) (N 0) z (nI t + m_change X z 0 13 z) := by
            unfold m_peS
            rw [ez, if_neg (nI_pos (by omega)), ix_nI (by omega), if_pos a13, m_change_rw X z 0 0 (by decide), k3.1]
          refine yr_forget6 ?_
          exact ih (i + 1) (m_peS (N 0) g X i) (by omega) (mB_fr hX (mFr_rw (m_peS_rw (N 0) g X i) rfl)) (by rw [hq]; exact mG_endsIn (mG_change hGX (by decide))) (by rw [m_peS_rw (N 0) g X i 13 (by decide)]; exact h13X) he h (by rw [hq, m_endsIn_rw _ _ _ _ 5 (by decide)]; exact hR)
  exact loop12 (4) 0 S (by omega) hB hG rfl rfl h hR
set_option maxHeartbeats 4000000 in
set_option maxRecDepth 100000 in
theorem xc_beginStage (g : Nat) (hg : g < N 1) (hlf : lf = S 5) (hM : ∀ k, k < 4 → ∀ p, S 18 (4 * g + k) = nI p → p < N 0 → S 3 p = 0) (hdst : ∀ k k', k < k' → k' < 4 → ∀ p, p < 8 → S 18 (4 * g + k) = nI p → S 18 (4 * g + k') ≠ nI p) (h12 : ∀ p, p < N 0 → ∃ k, k ≤ 120 ∧ S 12 p = nI k) (h23 : ∃ k, k < 4 ∧ S 18 (4 * g + k) ≠ -5) (hh : cO (S 39 0) (N 1)) (hB : mB S (N 0) (N 1) (N 2) (N 4) t) (h : yH) (hR : RX dA t0 (S) lf mc cap B N h) : yM (yZ t0 mi D dA) D yX8_beginStage cX8_beginStage 7 none 4 0 0 [.ref (B 0 0), .ref (B 6 g), .int (nI t)] h (fun r h' => r = none ∧ RX dA t0 (m_begin S g) (m_begin S g 5) mc cap B N h') := by
  refine yM_of (yZ_ok t0 mi D dA) (by decide) rfl (Nat.le_of_ble_eq_true rfl) ?_
  intro p l e s m args below meth c A C hr hin
  show yW p l e (yR 4 0 0) s m args below meth c 7 D A 0 0 _ 0 [some (.ref (B 0 0)), some (.ref (B 6 g)), some (.int (nI t)), none, none, none, none] [] h
  subst hlf
  have n0 : S 1 0 = nI (N 0) ∧ N 0 ≤ 8 := hB 0
  have n1 : S 17 0 = nI (N 1) ∧ N 1 ≤ 6 := hB 1
  have n4 : S 29 0 = nI (N 4) ∧ N 4 ≤ 6 := hB 2
  have k3 : S 0 0 = nI t ∧ t < 2 ^ 20 ∧ N 2 ≤ 12 := hB 3
  have k0 : S 0 0 = nI t := k3.1
  have hB1 : mB (mset (mset S 34 0 (nI g)) 35 0 (nI t)) (N 0) (N 1) (N 2) (N 4) t := mB_35 (mB_fr hB (mFr_set S 0 _ (show mFk 34 = true from rfl)))
  have hB2 : mB (mset (mset (mset S 34 0 (nI g)) 35 0 (nI t)) 36 0 (m_least (mset (mset S 34 0 (nI g)) 35 0 (nI t)) g)) (N 0) (N 1) (N 2) (N 4) t := mB_fr hB1 (mFr_set _ 0 _ (show mFk 36 = true from rfl))
  have hB4 : mB (m_pb4 (m_pb3 (m_pb2 (m_pb1 S (nI g)) g) g) (nI g)) (N 0) (N 1) (N 2) (N 4) t := mB_fr (mB_fr (mB_fr (mB_since hB _) (mFr_set _ 0 _ (show mFk 36 = true from rfl))) (mFr_set _ 0 _ (show mFk 37 = true from rfl))) (mFr_set _ 0 _ (show mFk 39 = true from rfl))
  have e18 : (m_pb4 (m_pb3 (m_pb2 (m_pb1 S (nI g)) g) g) (nI g)) 18 = S 18 := by simp [m_pb4, m_pb3, m_pb2, m_pb1, mset_ne]
  have e3 : (m_pb4 (m_pb3 (m_pb2 (m_pb1 S (nI g)) g) g) (nI g)) 3 = S 3 := by simp [m_pb4, m_pb3, m_pb2, m_pb1, mset_ne]
  have e5 : (m_pb4 (m_pb3 (m_pb2 (m_pb1 S (nI g)) g) g) (nI g)) 5 = S 5 := by simp [m_pb4, m_pb3, m_pb2, m_pb1, mset_ne]
  refine yr_aload_n 1 C dX8_beginStage_0 rfl rfl rfl ?_
  refine yr_aload_n 2 C dX8_beginStage_1 rfl rfl rfl ?_
  refine xx_put 5 C dX8_beginStage_2 fp_X8_56 (rx0 hR) (Nat.le_of_ble_eq_true rfl) rfl rfl (ru0_10 hR (nI g) (.ref (B 6 g)) (by rw [xr_nI (by omega)]; rfl)) rfl (fun h hR => ?_)
  refine yr_aload_n 6 C dX8_beginStage_5 rfl rfl rfl ?_
  refine yr_iload_n 7 C dX8_beginStage_6 rfl rfl ?_
  refine xx_put 10 C dX8_beginStage_7 fp_X8_60 (rx0 hR) (Nat.le_of_ble_eq_true rfl) rfl rfl (ru0_11 hR _) rfl (fun h hR => ?_)
  refine yr_aload_n 11 C dX8_beginStage_10 rfl rfl rfl ?_
  refine yr_aload_n 12 C dX8_beginStage_11 rfl rfl rfl ?_
  refine yr_V0v 15 C (xc_leastGreen g hg hB1 _ hR) dX8_beginStage_12 mt_X7_leastGreen mv_X7_leastGreen ml_X8_367 (rx6 hR hg) rfl (Nat.le_of_ble_eq_true rfl) (Nat.le_of_ble_eq_true rfl) (Nat.le_of_ble_eq_true rfl) (Nat.le_of_ble_eq_true rfl) (Nat.le_of_ble_eq_true rfl) rfl (fun h hR => ?_)
  refine xx_put 18 C dX8_beginStage_15 fp_X8_63 (rx0 hR) (Nat.le_of_ble_eq_true rfl) rfl rfl (ru0_12 hR _) rfl (fun h hR => ?_)
  refine yr_aload_n 19 C dX8_beginStage_18 rfl rfl rfl ?_
  refine yr_aload_n 20 C dX8_beginStage_19 rfl rfl rfl ?_
  refine yr_V0v 23 C (xc_greatestGreen g hg hB2 _ hR) dX8_beginStage_20 mt_X7_greatestGreen mv_X7_greatestGreen ml_X8_250 (rx6 hR hg) rfl (Nat.le_of_ble_eq_true rfl) (Nat.le_of_ble_eq_true rfl) (Nat.le_of_ble_eq_true rfl) (Nat.le_of_ble_eq_true rfl) (Nat.le_of_ble_eq_true rfl) rfl (fun h hR => ?_)
  refine xx_put 26 C dX8_beginStage_23 fp_X8_66 (rx0 hR) (Nat.le_of_ble_eq_true rfl) rfl rfl (ru0_13 hR _) rfl (fun h hR => ?_)
  refine yr_aload_n 27 C dX8_beginStage_26 rfl rfl rfl ?_
  refine yr_aload_n 28 C dX8_beginStage_27 rfl rfl rfl ?_
  refine yr_get 31 C dX8_beginStage_28 fl_X8_127 (rx6 hR hg) rfl rfl ?_
  refine xx_put 34 C dX8_beginStage_31 fp_X8_72 (rx0 hR) (Nat.le_of_ble_eq_true rfl) rfl rfl (ru0_15 hR _) rfl (fun h hR => ?_)
  replace hR : RX dA t0 (m_pb3 (m_pb2 (m_pb1 S (nI g)) g) g) (S 5) mc cap B N h := by
    have q1 : jmax (m_greatL (mset (mset (mset S 34 0 (nI g)) 35 0 (nI t)) 36 0 (m_least (mset (mset S 34 0 (nI g)) 35 0 (nI t)) g)) g 4 0 120) (m_least (mset (mset (mset S 34 0 (nI g)) 35 0 (nI t)) 36 0 (m_least (mset (mset S 34 0 (nI g)) 35 0 (nI t)) g)) g) = m_great S g := by
      rw [greatL_cong (S := S) (by simp [mset_ne]) (by simp [mset_ne]), least_cong (S := S) (by simp [mset_ne]) (by simp [mset_ne])]
      exact great_eq n0.2 (fun k hk => (show ∀ s, s < N 1 → ∀ k, k < 4 → cO (S 18 (4 * s + k)) (N 0) from hB 7) g hg k hk) h12 h23
    have q2 : m_least (mset (mset S 34 0 (nI g)) 35 0 (nI t)) g = m_least S g := least_cong (by simp [mset_ne]) (by simp [mset_ne]) g
    rw [q1, q2] at hR
    have q3 : m_pb3 (m_pb2 (m_pb1 S (nI g)) g) g = mset (mset (mset (mset (mset S 34 0 (nI g)) 35 0 (nI t)) 36 0 (m_least S g)) 37 0 (m_great S g)) 38 0 (nI g) := by
      have a1 : m_least (m_pb1 S (nI g)) g = m_least S g := least_cong (by simp [m_pb1, mset_ne]) (by simp [m_pb1, mset_ne]) g
      have a2 : m_great (m_pb2 (m_pb1 S (nI g)) g) g = m_great S g := great_cong (by simp [m_pb2, m_pb1, mset_ne]) (by simp [m_pb2, m_pb1, mset_ne]) (by simp [m_pb2, m_pb1, mset_ne]) g
      unfold m_pb3
      rw [a2]
      unfold m_pb2
      rw [a1]
      unfold m_pb1
      rw [k0]
      funext q
      by_cases c1 : q = 34
      · subst c1; simp [mset_row, mset_ne]
      · by_cases c2 : q = 35
        · subst c2; simp [mset_row, mset_ne]
        · by_cases c3 : q = 36
          · subst c3; simp [mset_row, mset_ne]
          · by_cases c4 : q = 37
            · subst c4; simp [mset_row, mset_ne]
            · by_cases c5 : q = 38
              · subst c5; simp [mset_row, mset_ne]
              · simp [mset_ne, c1, c2, c3, c4, c5]
    rw [q3]
    exact hR
  have e39 : m_pb3 (m_pb2 (m_pb1 S (nI g)) g) g 39 = S 39 := by simp [m_pb3, m_pb2, m_pb1, mset_ne]
  refine yr_aload_n 35 C dX8_beginStage_34 rfl rfl rfl ?_
  refine yr_get 38 C dX8_beginStage_35 fl_X8_69 (rx0 hR) rfl rfl ?_
  refine yr_aload_n 39 C dX8_beginStage_38 rfl rfl rfl ?_
  refine yr_acmp_ne 47 42 C (x := xr (B 6) (m_pb3 (m_pb2 (m_pb1 S (nI g)) g) g 39 0)) (y := some (B 6 g)) dX8_beginStage_39 (by decide) rfl (fun c39 => ?_) (fun c39 => ?_)
  · have a1 : ¬ m_pb3 (m_pb2 (m_pb1 S (nI g)) g) g 39 0 = nI g := fun z => c39 (by rw [z, xr_nI (by omega)])
    replace hR : RX dA t0 (m_pb4 (m_pb3 (m_pb2 (m_pb1 S (nI g)) g) g) (nI g)) ((m_pb4 (m_pb3 (m_pb2 (m_pb1 S (nI g)) g) g) (nI g)) 5) mc cap B N h := by
      rw [e5]
      unfold m_pb4
      rw [if_neg a1, mset_self]
      exact hR
    refine yr_aload_n 48 C dX8_beginStage_47 rfl rfl rfl ?_
    refine yr_get 51 C dX8_beginStage_48 fl_X8_352 (rx6 hR hg) rfl rfl ?_
    refine yr_astore3 52 C dX8_beginStage_51 rfl (by decide) rfl ?_
    refine yr_aload_n 53 C dX8_beginStage_52 rfl rfl rfl ?_
    refine yr_alen 54 4 C (4) dX8_beginStage_53 (rx7 hR hg) rfl rfl rfl ?_
    refine yr_istore4 56 C dX8_beginStage_54 (by decide) rfl ?_
    refine yr_iconst 57 C (0) dX8_beginStage_56 rfl rfl ?_
    refine yr_istore5 59 C dX8_beginStage_57 (by decide) rfl ?_
    have loop59 : ∀ (j i : Nat) (X : yS), i + j = 4 → mB X (N 0) (N 1) (N 2) (N 4) t → X 18 = S 18 → (∀ k, i ≤ k → k < 4 → ∀ p, S 18 (4 * g + k) = nI p → p < N 0 → X 3 p = 1 → 0 < t) → m_pbL g j i X = m_begin S g → ∀ h : yH, RX dA t0 (X) (X 5) mc cap B N h → yW p l e (yR 4 0 0) s m args below meth c 7 D A 0 0 (yF D A (fun r h' => r = none ∧ RX dA t0 (m_begin S g) (m_begin S g 5) mc cap B N h') below args s 0 0) 59 [some (.ref (B 0 0)), some (.ref (B 6 g)), some (.int (nI t)), some (.ref (B 7 g)), some (.int 4), some (.int (nI i)), none] [] h := by
      intro j
      induction j with
      | zero =>
        intro i X hij hX h18X hgX he h hR
        have n0 : X 1 0 = nI (N 0) ∧ N 0 ≤ 8 := hX 0
        have n1 : X 17 0 = nI (N 1) ∧ N 1 ≤ 6 := hX 1
        have n4 : X 29 0 = nI (N 4) ∧ N 4 ≤ 6 := hX 2
        have k3 : X 0 0 = nI t ∧ t < 2 ^ 20 ∧ N 2 ≤ 12 := hX 3
        refine yr_iload 61 C dX8_beginStage_59 rfl rfl ?_
        refine yr_iload 63 C dX8_beginStage_61 rfl rfl ?_
        refine yr_icmp_ge 112 66 C  dX8_beginStage_63 (by decide) rfl (fun c63 => ?_) (fun c63 => ?_)
        rotate_left
        · exact absurd (by rw [show i = 4 by omega]; decide) c63
        refine yr_vret C dX8_beginStage_112 hr (Nat.le_of_ble_eq_true rfl) (Nat.le_of_ble_eq_true rfl) ?_
        have he2 : X = m_begin S g := he
        rw [← he2]
        exact ⟨rfl, hR⟩
      | succ j ih =>
        intro i X hij hX h18X hgX he h hR
        have n0 : X 1 0 = nI (N 0) ∧ N 0 ≤ 8 := hX 0
        have n1 : X 17 0 = nI (N 1) ∧ N 1 ≤ 6 := hX 1
        have n4 : X 29 0 = nI (N 4) ∧ N 4 ≤ 6 := hX 2
        have k3 : X 0 0 = nI t ∧ t < 2 ^ 20 ∧ N 2 ≤ 12 := hX 3
        have q7 : cO (X 18 (4 * g + i)) (N 0) := (show ∀ s, s < N 1 → ∀ k, k < 4 → cO (X 18 (4 * s + k)) (N 0) from hX 7) g hg i (by omega)
        refine yr_iload 61 C dX8_beginStage_59 rfl rfl ?_
        refine yr_iload 63 C dX8_beginStage_61 rfl rfl ?_
        refine yr_icmp_ge 112 66 C  dX8_beginStage_63 (by decide) rfl (fun c63 => ?_) (fun c63 => ?_)
        · exact absurd c63 (nI_ge (b := 4) (by omega) (by decide))
        refine yr_aload_n 67 C dX8_beginStage_66 rfl rfl rfl ?_
        refine yr_iload 69 C dX8_beginStage_67 rfl rfl ?_
        refine xx_place 70 C hR hg (by omega) n0.2 q7 dX8_beginStage_69 rfl (fun en => ?_) (fun z hz ez => ?_)
        · refine yr_astore6 72 C dX8_beginStage_70 rfl (by decide) rfl ?_
          refine yr_aload 74 C dX8_beginStage_72 rfl rfl rfl ?_
          refine yr_ifnonnull_n 77 C dX8_beginStage_74 rfl ?_
          refine yr_goto 106 C dX8_beginStage_77 (by decide) ?_
          refine yr_iinc5 109 C (1) dX8_beginStage_106 rfl (by decide) rfl ?_
          rw [nI_1]
          refine yr_goto 59 C dX8_beginStage_109 (by decide) ?_
          have hq : m_pbS g X i = X := by unfold m_pbS; rw [if_pos (by rw [en]; decide)]
          refine yr_forget6 ?_
          exact ih (i + 1) (m_pbS g X i) (by omega) (by rw [hq]; exact hX) (by rw [hq]; exact h18X) (by rw [hq]; exact fun k a b => hgX k (by omega) b) he h (by rw [hq]; exact hR)
        · refine yr_astore6 72 C dX8_beginStage_70 rfl (by decide) rfl ?_
          refine yr_aload 74 C dX8_beginStage_72 rfl rfl rfl ?_
          refine yr_ifnonnull_r 80 C dX8_beginStage_74 (by decide) ?_
          refine yr_aload_n 81 C dX8_beginStage_80 rfl rfl rfl ?_
          refine yr_aload 83 C dX8_beginStage_81 rfl rfl rfl ?_
          refine yr_iconst 84 C (1) dX8_beginStage_83 rfl rfl ?_
          refine yr_iload_n 85 C dX8_beginStage_84 rfl rfl ?_
          refine yr_V3u 88 C (xc_changeLight z hz 1 rfl (hgX i (Nat.le_refl i) (by omega) z (by rw [← h18X]; exact ez) hz) hX _ hR) dX8_beginStage_85 mt_X8_changeLight mv_X8_changeLight ml_X8_356 (rx0 hR) rfl (Nat.le_of_ble_eq_true rfl) (Nat.le_of_ble_eq_true rfl) (Nat.le_of_ble_eq_true rfl) (Nat.le_of_ble_eq_true rfl) (Nat.le_of_ble_eq_true rfl) rfl (fun h hR => ?_)
          refine yr_aload 90 C dX8_beginStage_88 rfl rfl rfl ?_
          refine yr_dup 91 C dX8_beginStage_90 rfl rfl ?_
          refine yr_get 94 C dX8_beginStage_91 fl_X8_232 (rx3 hR hz) rfl rfl ?_
          refine yr_iconst 95 C (1) dX8_beginStage_94 rfl rfl ?_
          refine yr_iadd 96 C dX8_beginStage_95 rfl ?_
          refine xx_put 99 C dX8_beginStage_96 fp_X8_232 (rx3 hR hz) (Nat.le_of_ble_eq_true rfl) rfl rfl (ru3_15 hR hz _) rfl (fun h hR => ?_)
          refine yr_aload 101 C dX8_beginStage_99 rfl rfl rfl ?_
          refine yr_bipush 103 C (-5) dX8_beginStage_101 rfl rfl ?_
          refine xx_put 106 C dX8_beginStage_103 fp_X8_172 (rx3 hR hz) (Nat.le_of_ble_eq_true rfl) rfl rfl (ru3_8 hR hz _) rfl (fun h hR => ?_)
          refine yr_iinc5 109 C (1) dX8_beginStage_106 rfl (by decide) rfl ?_
          rw [nI_1]
          refine yr_goto 59 C dX8_beginStage_109 (by decide) ?_
          have hq : m_pbS g X i = mset (mset (m_change X z 1) 7 z (m_change X z 1 7 z + 1)) 10 z (-5) := by
            unfold m_pbS
            rw [ez, if_neg (nI_pos (by omega)), ix_nI (by omega)]
          have h3 : m_pbS g X i 3 = upd (X 3) z 1 := by rw [hq, mset_ne _ _ (by decide), mset_ne _ _ (by decide), m_change_3]
          refine yr_forget6 ?_
          refine ih (i + 1) (m_pbS g X i) (by omega) (mB_fr hX (mFr_rw (m_pbS_rw g X i) rfl)) (by rw [m_pbS_rw g X i 18 (by decide)]; exact h18X) (fun k a b p e hp c => ?_) he h (by rw [hq, mset_ne _ _ (show (5 : Nat) ≠ 10 by decide), mset_ne _ _ (show (5 : Nat) ≠ 7 by decide)]; exact hR)
          rw [h3] at c
          by_cases q : p = z
          · subst q
            rw [h18X] at ez
            exact absurd e (hdst i k (by omega) b p (by omega) ez)
          · simp only [upd, if_neg q] at c
            exact hgX k (by omega) b p e hp c
    exact loop59 (4) 0 (m_pb4 (m_pb3 (m_pb2 (m_pb1 S (nI g)) g) g) (nI g)) (by omega) hB4 e18 (fun k _ b p e hp c => by rw [e3, hM k b p e hp] at c; exact absurd c (by decide)) rfl h hR
  · refine yr_aload_n 43 C dX8_beginStage_42 rfl rfl rfl ?_
    refine yr_null 44 C dX8_beginStage_43 rfl ?_
    refine xx_put 47 C dX8_beginStage_44 fp_X8_69 (rx0 hR) (Nat.le_of_ble_eq_true rfl) rfl rfl (ru0_14 hR (-5) .null (by rw [xr_m5]; rfl)) rfl (fun h hR => ?_)
    have a1 : m_pb3 (m_pb2 (m_pb1 S (nI g)) g) g 39 0 = nI g := by
      rcases xr_cases (f := B 6) (by omega) (show cO (m_pb3 (m_pb2 (m_pb1 S (nI g)) g) g 39 0) (N 1) by rw [e39]; exact hh) with ⟨g1, g2⟩ | ⟨z, hz, g1, g2⟩
      · rw [g2] at c39; cases c39
      · rw [g2] at c39
        rw [g1, (hR.2.1 6 z 6 g hz hg (Option.some.inj c39)).2]
    replace hR : RX dA t0 (m_pb4 (m_pb3 (m_pb2 (m_pb1 S (nI g)) g) g) (nI g)) ((m_pb4 (m_pb3 (m_pb2 (m_pb1 S (nI g)) g) g) (nI g)) 5) mc cap B N h := by
      rw [e5]
      unfold m_pb4
      rw [if_pos a1]
      exact hR
    refine yr_aload_n 48 C dX8_beginStage_47 rfl rfl rfl ?_
    refine yr_get 51 C dX8_beginStage_48 fl_X8_352 (rx6 hR hg) rfl rfl ?_
    refine yr_astore3 52 C dX8_beginStage_51 rfl (by decide) rfl ?_
    refine yr_aload_n 53 C dX8_beginStage_52 rfl rfl rfl ?_
    refine yr_alen 54 4 C (4) dX8_beginStage_53 (rx7 hR hg) rfl rfl rfl ?_
    refine yr_istore4 56 C dX8_beginStage_54 (by decide) rfl ?_
    refine yr_iconst 57 C (0) dX8_beginStage_56 rfl rfl ?_
    refine yr_istore5 59 C dX8_beginStage_57 (by decide) rfl ?_
    have loop59 : ∀ (j i : Nat) (X : yS), i + j = 4 → mB X (N 0) (N 1) (N 2) (N 4) t → X 18 = S 18 → (∀ k, i ≤ k → k < 4 → ∀ p, S 18 (4 * g + k) = nI p → p < N 0 → X 3 p = 1 → 0 < t) → m_pbL g j i X = m_begin S g → ∀ h : yH, RX dA t0 (X) (X 5) mc cap B N h → yW p l e (yR 4 0 0) s m args below meth c 7 D A 0 0 (yF D A (fun r h' => r = none ∧ RX dA t0 (m_begin S g) (m_begin S g 5) mc cap B N h') below args s 0 0) 59 [some (.ref (B 0 0)), some (.ref (B 6 g)), some (.int (nI t)), some (.ref (B 7 g)), some (.int 4), some (.int (nI i)), none] [] h := by
      intro j
      induction j with
      | zero =>
        intro i X hij hX h18X hgX he h hR
        have n0 : X 1 0 = nI (N 0) ∧ N 0 ≤ 8 := hX 0
        have n1 : X 17 0 = nI (N 1) ∧ N 1 ≤ 6 := hX 1
        have n4 : X 29 0 = nI (N 4) ∧ N 4 ≤ 6 := hX 2
        have k3 : X 0 0 = nI t ∧ t < 2 ^ 20 ∧ N 2 ≤ 12 := hX 3
        refine yr_iload 61 C dX8_beginStage_59 rfl rfl ?_
        refine yr_iload 63 C dX8_beginStage_61 rfl rfl ?_
        refine yr_icmp_ge 112 66 C  dX8_beginStage_63 (by decide) rfl (fun c63 => ?_) (fun c63 => ?_)
        rotate_left
        · exact absurd (by rw [show i = 4 by omega]; decide) c63
        refine yr_vret C dX8_beginStage_112 hr (Nat.le_of_ble_eq_true rfl) (Nat.le_of_ble_eq_true rfl) ?_
        have he2 : X = m_begin S g := he
        rw [← he2]
        exact ⟨rfl, hR⟩
      | succ j ih =>
        intro i X hij hX h18X hgX he h hR
        have n0 : X 1 0 = nI (N 0) ∧ N 0 ≤ 8 := hX 0
        have n1 : X 17 0 = nI (N 1) ∧ N 1 ≤ 6 := hX 1
        have n4 : X 29 0 = nI (N 4) ∧ N 4 ≤ 6 := hX 2
        have k3 : X 0 0 = nI t ∧ t < 2 ^ 20 ∧ N 2 ≤ 12 := hX 3
        have q7 : cO (X 18 (4 * g + i)) (N 0) := (show ∀ s, s < N 1 → ∀ k, k < 4 → cO (X 18 (4 * s + k)) (N 0) from hX 7) g hg i (by omega)
        refine yr_iload 61 C dX8_beginStage_59 rfl rfl ?_
        refine yr_iload 63 C dX8_beginStage_61 rfl rfl ?_
        refine yr_icmp_ge 112 66 C  dX8_beginStage_63 (by decide) rfl (fun c63 => ?_) (fun c63 => ?_)
        · exact absurd c63 (nI_ge (b := 4) (by omega) (by decide))
        refine yr_aload_n 67 C dX8_beginStage_66 rfl rfl rfl ?_
        refine yr_iload 69 C dX8_beginStage_67 rfl rfl ?_
        refine xx_place 70 C hR hg (by omega) n0.2 q7 dX8_beginStage_69 rfl (fun en => ?_) (fun z hz ez => ?_)
        · refine yr_astore6 72 C dX8_beginStage_70 rfl (by decide) rfl ?_
          refine yr_aload 74 C dX8_beginStage_72 rfl rfl rfl ?_
          refine yr_ifnonnull_n 77 C dX8_beginStage_74 rfl ?_
          refine yr_goto 106 C dX8_beginStage_77 (by decide) ?_
          refine yr_iinc5 109 C (1) dX8_beginStage_106 rfl (by decide) rfl ?_
          rw [nI_1]
          refine yr_goto 59 C dX8_beginStage_109 (by decide) ?_
          have hq : m_pbS g X i = X := by unfold m_pbS; rw [if_pos (by rw [en]; decide)]
          refine yr_forget6 ?_
          exact ih (i + 1) (m_pbS g X i) (by omega) (by rw [hq]; exact hX) (by rw [hq]; exact h18X) (by rw [hq]; exact fun k a b => hgX k (by omega) b) he h (by rw [hq]; exact hR)
        · refine yr_astore6 72 C dX8_beginStage_70 rfl (by decide) rfl ?_
          refine yr_aload 74 C dX8_beginStage_72 rfl rfl rfl ?_
          refine yr_ifnonnull_r 80 C dX8_beginStage_74 (by decide) ?_
          refine yr_aload_n 81 C dX8_beginStage_80 rfl rfl rfl ?_
          refine yr_aload 83 C dX8_beginStage_81 rfl rfl rfl ?_
          refine yr_iconst 84 C (1) dX8_beginStage_83 rfl rfl ?_
          refine yr_iload_n 85 C dX8_beginStage_84 rfl rfl ?_
          refine yr_V3u 88 C (xc_changeLight z hz 1 rfl (hgX i (Nat.le_refl i) (by omega) z (by rw [← h18X]; exact ez) hz) hX _ hR) dX8_beginStage_85 mt_X8_changeLight mv_X8_changeLight ml_X8_356 (rx0 hR) rfl (Nat.le_of_ble_eq_true rfl) (Nat.le_of_ble_eq_true rfl) (Nat.le_of_ble_eq_true rfl) (Nat.le_of_ble_eq_true rfl) (Nat.le_of_ble_eq_true rfl) rfl (fun h hR => ?_)
          refine yr_aload 90 C dX8_beginStage_88 rfl rfl rfl ?_
          refine yr_dup 91 C dX8_beginStage_90 rfl rfl ?_
          refine yr_get 94 C dX8_beginStage_91 fl_X8_232 (rx3 hR hz) rfl rfl ?_
          refine yr_iconst 95 C (1) dX8_beginStage_94 rfl rfl ?_
          refine yr_iadd 96 C dX8_beginStage_95 rfl ?_
          refine xx_put 99 C dX8_beginStage_96 fp_X8_232 (rx3 hR hz) (Nat.le_of_ble_eq_true rfl) rfl rfl (ru3_15 hR hz _) rfl (fun h hR => ?_)
          refine yr_aload 101 C dX8_beginStage_99 rfl rfl rfl ?_
          refine yr_bipush 103 C (-5) dX8_beginStage_101 rfl rfl ?_
          refine xx_put 106 C dX8_beginStage_103 fp_X8_172 (rx3 hR hz) (Nat.le_of_ble_eq_true rfl) rfl rfl (ru3_8 hR hz _) rfl (fun h hR => ?_)
          refine yr_iinc5 109 C (1) dX8_beginStage_106 rfl (by decide) rfl ?_
          rw [nI_1]
          refine yr_goto 59 C dX8_beginStage_109 (by decide) ?_
          have hq : m_pbS g X i = mset (mset (m_change X z 1) 7 z (m_change X z 1 7 z + 1)) 10 z (-5) := by
            unfold m_pbS
            rw [ez, if_neg (nI_pos (by omega)), ix_nI (by omega)]
          have h3 : m_pbS g X i 3 = upd (X 3) z 1 := by rw [hq, mset_ne _ _ (by decide), mset_ne _ _ (by decide), m_change_3]
          refine yr_forget6 ?_
          refine ih (i + 1) (m_pbS g X i) (by omega) (mB_fr hX (mFr_rw (m_pbS_rw g X i) rfl)) (by rw [m_pbS_rw g X i 18 (by decide)]; exact h18X) (fun k a b p e hp c => ?_) he h (by rw [hq, mset_ne _ _ (show (5 : Nat) ≠ 10 by decide), mset_ne _ _ (show (5 : Nat) ≠ 7 by decide)]; exact hR)
          rw [h3] at c
          by_cases q : p = z
          · subst q
            rw [h18X] at ez
            exact absurd e (hdst i k (by omega) b p (by omega) ez)
          · simp only [upd, if_neg q] at c
            exact hgX k (by omega) b p e hp c
    exact loop59 (4) 0 (m_pb4 (m_pb3 (m_pb2 (m_pb1 S (nI g)) g) g) (nI g)) (by omega) hB4 e18 (fun k _ b p e hp c => by rw [e3, hM k b p e hp] at c; exact absurd c (by decide)) rfl h hR
end X13
