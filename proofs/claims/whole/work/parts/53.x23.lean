theorem pushB_new {B : Nat → Nat → Nat} {li n ea k : Nat} {Y : Nat → Nat} (hk : xnew li k = true) (h2 : k ≠ 2) : pushB B li n ea Y k n = Y k := by
  unfold pushB
  rw [if_neg (fun q => h2 q.1), if_pos ⟨hk, rfl⟩]
theorem IW_p2 {h0 h : yH} {a ci q5 q4 : Nat} {L : List Value} {e5 e4 : va_E} (hI : IW h0 a ci L [(q5, e5), (q4, e4)] h) : (q5 ≠ a ∧ h0 q5 = none ∧ h q5 = some e5) ∧ (q4 ≠ a ∧ h0 q4 = none ∧ h q4 = some e4) ∧ q5 ≠ q4 := ⟨hI.2.2.1 (q5, e5) (by simp), hI.2.2.1 (q4, e4) (by simp), (List.pairwise_cons.mp hI.2.2.2).1 (q4, e4) (by simp)⟩
theorem IW_p1 {h0 h : yH} {a ci q7 : Nat} {L : List Value} {e7 : va_E} (hI : IW h0 a ci L [(q7, e7)] h) : q7 ≠ a ∧ h0 q7 = none ∧ h q7 = some e7 := hI.2.2.1 (q7, e7) (by simp)
/-- a kind's cells do not see rows that are not theirs, nor places beyond the list -/
theorem far_C {S' : yS} {dA : Nat → ClassId} {t0 : Nat} {S : yS} {lf mc : Nat → Int32} {cap : Nat → Nat} {B : Nat → Nat → Nat} {N : Nat → Nat} {h : yH} {L : List Nat} {k0 k i : Nat} (v : xV S cap N k i) (e : ∀ r, r ∉ L → S' r = S r) (hL : ∀ k, k < 17 → k ≠ k0 → ∀ r, r ∈ xRows k → r ∉ L) (h0 : k = k0 → xC dA S' lf mc cap B N k i = xC dA S lf mc cap B N k i) : xC dA S' lf mc cap B N k i = xC dA S lf mc cap B N k i := by
  by_cases c : k = k0
  · exact h0 c
  · exact xC_rows (xV_lt v) (fun q hq => e q (hL k (xV_lt v) c q (by simpa using hq)))
theorem XI_of {x0 T t : Nat} {dA : Nat → ClassId} {t0 : Nat} {S : yS} {mc : Nat → Int32} {cap : Nat → Nat} {B : Nat → Nat → Nat} {N : Nat → Nat} {h : yH} (hR : RX dA t0 S (S 5) mc cap B N h) (hI : mI S (N 0) (N 1) (N 2) (N 3) (N 4) t) (hB : B 0 0 = x0) (hT : t ≤ T) : XI dA t0 S x0 T h := ⟨mc, cap, B, N, t, hB, hR, hI, hT⟩
section X23
variable {D : va_G} {dA : Nat → ClassId} {t0 mi : Nat} {S : yS} {lf mc : Nat → Int32} {cap : Nat → Nat} {B : Nat → Nat → Nat} {N : Nat → Nat}
variable {t : Nat}
set_option maxHeartbeats 4000000 in
set_option maxRecDepth 100000 in
theorem xc_phase (q : Int32) (hI : mI S (N 0) (N 1) (N 2) (N 3) (N 4) t) (ht : t < 2 ^ 20) (hlf : lf = S 5) (h : yH) (hR : RX dA t0 (S) lf mc cap B N h) : yM (yZ t0 mi D dA) D yX8_phase cX8_phase 3 (some .int) 7 4 120 [.ref (B 0 0), .int q] h (fun r h' => r = some (.int (sp_phase S q).1) ∧ XI dA t0 (sp_phase S q).2 (B 0 0) t h') := by
  refine yM_of (yZ_ok t0 mi D dA) (by decide) rfl (Nat.le_of_ble_eq_true rfl) ?_
  intro p l e s m args below meth c A C hr hin
  show yW p l e (yR 7 4 120) s m args below meth c 3 D A 0 0 _ 0 [some (.ref (B 0 0)), some (.int q), none] [] h
  subst hlf
  have h0 : S 1 0 = nI (N 0) ∧ N 0 ≤ 8 := hI 0
  have h1 : S 17 0 = nI (N 1) ∧ N 1 ≤ 6 := hI 1
  have h2 : S 19 0 = nI (N 2) ∧ N 2 ≤ 12 := hI 2
  have h5 : S 0 0 = nI t := hI 5
  have hB := mB_of_mI hI ht
  have hF0 := RF_of hI
  refine yr_iload_n 1 C dX8_phase_0 rfl rfl ?_
  refine yr_if_lt 9 4 C  dX8_phase_1 (by decide) rfl (fun c1 => ?_) (fun c1 => ?_)
  · refine yr_iconst 10 C (-1) dX8_phase_9 rfl rfl ?_
    refine yr_iret C dX8_phase_10 hr (Nat.le_of_ble_eq_true rfl) (Nat.le_of_ble_eq_true rfl) ?_
    have a1 : m_in q 0 4 = false := by simp [m_in, c1]
    unfold sp_phase
    rw [a1]
    exact ⟨rfl, mc, cap, B, N, t, rfl, hR, hI, Nat.le_refl t⟩
  · refine yr_iload_n 5 C dX8_phase_4 rfl rfl ?_
    refine yr_iconst 6 C (4) dX8_phase_5 rfl rfl ?_
    refine yr_icmp_le 11 9 C  dX8_phase_6 (by decide) rfl (fun c6 => ?_) (fun c6 => ?_)
    · refine yr_aload_n 12 C dX8_phase_11 rfl rfl rfl ?_
      refine yr_get 15 C dX8_phase_12 fl_X8_49 (rx0 hR) rfl rfl ?_
      refine yr_if_le 21 18 C  dX8_phase_15 (by decide) rfl (fun c15 => ?_) (fun c15 => ?_)
      · refine yr_aload_n 22 C dX8_phase_21 rfl rfl rfl ?_
        refine yr_get 25 C dX8_phase_22 fl_X8_10 (rx0 hR) rfl rfl ?_
        refine yr_V0v 28 C (jl_size (show 0 < 5 by decide) _ hR) dX8_phase_25 mt_Jx4a65c_size_8abf5 mv_Jx4a65c_size_8abf5 ml_X8_75 (rx1 hR (show 0 < 5 by decide)) rfl (Nat.le_of_ble_eq_true rfl) (Nat.le_of_ble_eq_true rfl) (Nat.le_of_ble_eq_true rfl) (Nat.le_of_ble_eq_true rfl) (Nat.le_of_ble_eq_true rfl) rfl (fun h e => ?_)
        subst e
        refine yr_bipush 30 C (8) dX8_phase_28 rfl rfl ?_
        refine yr_icmp_lt 36 33 C  dX8_phase_30 (by decide) rfl (fun c30 => ?_) (fun c30 => ?_)
        · have c36 : N 0 < 8 := by
            rcases Nat.lt_or_ge (N 0) 8 with z | z
            · exact z
            · exact absurd c30 (nI_nlt (b := 8) z (by omega))
          obtain ⟨kk, hkk, rfl⟩ : ∃ kk : Nat, kk ≤ 4 ∧ q = nI kk := nI_of2 (M := 4) rfl c1 c6
          have ht0 : t = 0 := by
            rw [h5] at c15
            rcases Nat.eq_zero_or_pos t with z | z
            · exact z
            · exact absurd c15 (nI_nle z (by omega))
          have h29 := (hI 29) (N 0) (Nat.le_refl _) c36
          rename yH => hb
          refine yr_new 39 C dX8_phase_36 nw_79 (Nat.le_of_ble_eq_true rfl) (Nat.le_of_ble_eq_true rfl) rfl (fun a ha0 => ?_)
          have hs1 := sub_up (e := some (.inr (7, [.int 0, .int 0, .null, .null, .null, .int 0, .int 0, .int 0, .int 0, .int 0, .int 0, .int 0, .int 0, .int 0, .int 0, .int 0, .int 0, .int 0]))) ha0
          have ha1 := va_up_self' hb a (some (.inr (7, [.int 0, .int 0, .null, .null, .null, .int 0, .int 0, .int 0, .int 0, .int 0, .int 0, .int 0, .int 0, .int 0, .int 0, .int 0, .int 0, .int 0])))
          have hRb := hR
          replace hR := RX_sub hR hs1
          generalize va_up hb a (some (.inr (7, [.int 0, .int 0, .null, .null, .null, .int 0, .int 0, .int 0, .int 0, .int 0, .int 0, .int 0, .int 0, .int 0, .int 0, .int 0, .int 0, .int 0]))) = h1 at hR hs1 ha1 ⊢
          refine yr_dup 40 C dX8_phase_39 rfl rfl ?_
          refine yr_aload_n 41 C dX8_phase_40 rfl rfl rfl ?_
          refine yr_get 44 C dX8_phase_41 fl_X8_10 (rx0 hR) rfl rfl ?_
          refine yr_V0v 47 C (jl_size (show 0 < 5 by decide) _ hR) dX8_phase_44 mt_Jx4a65c_size_8abf5 mv_Jx4a65c_size_8abf5 ml_X8_75 (rx1 hR (show 0 < 5 by decide)) rfl (Nat.le_of_ble_eq_true rfl) (Nat.le_of_ble_eq_true rfl) (Nat.le_of_ble_eq_true rfl) (Nat.le_of_ble_eq_true rfl) (Nat.le_of_ble_eq_true rfl) rfl (fun h e => ?_)
          subst e
          refine yr_iload_n 48 C dX8_phase_47 rfl rfl ?_
          refine yr_I2u 51 C (xi_phase a (nI (N 0)) (nI kk) _ ha1) dX8_phase_48 mt_X6_init rfl mi_X6_init ml_X8_81 (Nat.le_of_ble_eq_true rfl) (Nat.le_of_ble_eq_true rfl) (Nat.le_of_ble_eq_true rfl) (Nat.le_of_ble_eq_true rfl) (Nat.le_of_ble_eq_true rfl) rfl (fun h hIW => ?_)
          obtain ⟨q4, q5, hIW⟩ := hIW
          have hs2 := IW_sub hIW hs1 ha0
          replace hR := RX_sub hRb hs2
          have eS : ∀ r, r ∉ ([1, 2] : List Nat) → mset (mset S 2 (N 0) (nI kk)) 1 0 (nI (N 0) + 1) r = S r := fun r hr => by
            simp at hr
            simp [mset_ne, hr]
          have e2 : ∀ p, mset (mset S 2 (N 0) (nI kk)) 1 0 (nI (N 0) + 1) 2 p = if p = N 0 then nI kk else S 2 p := fun p => by rw [mset_ne _ _ (by decide), mset_at]
          obtain ⟨S1, hS1⟩ : ∃ S1, S1 = mset (mset S 2 (N 0) (nI kk)) 1 0 (nI (N 0) + 1) := ⟨_, rfl⟩
          rw [← hS1] at eS e2
          have hF : RF S1 N := by
            unfold RF
            rw [eS 34 (by decide), eS 39 (by decide), eS 4 (by decide), eS 18 (by decide), eS 24 (by decide), eS 30 (by decide), eS 31 (by decide)]
            exact RF_of hI
          have hRf := RX_far (S' := S1) hRb (xV_imp (by rw [eS 20 (by decide)]; exact fun i q => q)) (fun k i v => far_C (t0 := t0) (h := hb) (L := [1, 2]) (k0 := 3) (xV_imp (by rw [eS 20 (by decide)]; exact fun i q => q) k i v) eS (by decide) (fun z => by
            subst z
            have hi : i < N 0 := v
            have ne : i ≠ N 0 := by omega
            simp only [xC, xP, e2, if_neg ne, eS 4 (by decide), eS 14 (by decide), eS 3 (by decide), eS 15 (by decide), eS 10 (by decide), eS 8 (by decide), eS 9 (by decide), eS 11 (by decide), eS 12 (by decide), eS 13 (by decide), eS 6 (by decide), eS 7 (by decide), eS 5 (by decide)]))
          refine yr_astore2 52 C dX8_phase_51 rfl (by decide) rfl ?_
          refine yr_aload_n 53 C dX8_phase_52 rfl rfl rfl ?_
          refine yr_get 56 C dX8_phase_53 fl_X8_10 (rx0 hR) rfl rfl ?_
          refine yr_aload_n 57 C dX8_phase_56 rfl rfl rfl ?_
          obtain ⟨Y, hY3, hY4, hY5⟩ : ∃ Y : Nat → Nat, Y 3 = a ∧ Y 4 = q4 ∧ Y 5 = q5 := ⟨fun k => if k = 3 then a else if k = 4 then q4 else q5, rfl, rfl, rfl⟩
          obtain ⟨⟨x5, y5, w5⟩, ⟨x4, y4, w4⟩, x54⟩ := IW_p2 hIW
          have kc : ∀ {P : Nat → Prop}, P 3 → P 4 → P 5 → ∀ k, xnew 0 k = true → P k := fun {P} p3 p4 p5 k hk => by
            simp only [xnew, Bool.or_eq_true, beq_iff_eq] at hk
            rcases hk with (rfl | rfl) | rfl
            · exact p3
            · exact p4
            · exact p5
          have hY := kc (P := fun k => hb (Y k) = none) (by rw [hY3]; exact ha0) (by rw [hY4]; exact sub_none hs1 y4) (by rw [hY5]; exact sub_none hs1 y5)
          rw [← hY3]
          refine yr_V1v 60 C (jl_add (li := 0) (Y := Y) (by decide) hRf hF hs2 hY (by
    intro k k' hk hk' e
    revert k'
    refine kc (P := fun k => ∀ k', xnew 0 k' = true → Y k = Y k' → k = k') ?_ ?_ ?_ k hk
    · refine kc ?_ ?_ ?_
      · exact fun _ => rfl
      · rw [hY3, hY4]; exact fun z => absurd z.symm x4
      · rw [hY3, hY5]; exact fun z => absurd z.symm x5
    · refine kc ?_ ?_ ?_
      · rw [hY3, hY4]; exact fun z => absurd z x4
      · exact fun _ => rfl
      · rw [hY4, hY5]; exact fun z => absurd z.symm x54
    · refine kc ?_ ?_ ?_
      · rw [hY3, hY5]; exact fun z => absurd z x5
      · rw [hY4, hY5]; exact fun z => absurd z x54
      · exact fun _ => rfl) (fun ea c2 => kc (fun _ => by
      rw [hY3, hIW.2.1]
      simp only [xC, xP, pushB_new (k := 4) (show xnew 0 4 = true from rfl) (by decide), pushB_new (k := 5) (show xnew 0 5 = true from rfl) (by decide), hY4, hY5, e2, if_true, eS 4 (by decide), eS 14 (by decide), eS 3 (by decide), eS 15 (by decide), eS 10 (by decide), eS 8 (by decide), eS 9 (by decide), eS 11 (by decide), eS 12 (by decide), eS 13 (by decide), eS 6 (by decide), eS 7 (by decide), eS 5 (by decide)]
      obtain ⟨a3, a4, a5, a6, a7, a8, a9, a10, a11, a12, a13, a14, a15⟩ := h29
      rw [a3, a4, a5, a6, a7, a8, a9, a10, a11, a12, a13, a14, a15, xr_m5]
      rfl) (fun _ => by
      rw [hY4, w4]
      simp only [xC, eS 16 (by decide)]
      congr 5
      funext z
      by_cases cz : z < 8
      · obtain ⟨cc, d1, d2, d3, d4, d5⟩ := (show ∀ p, p < 8 → ∀ q, q < 8 → ∃ c, c ≤ 21 ∧ S 16 (8 * p + q) = nI c ∧ (p = q → c = 0) ∧ (N 0 ≤ p → c = 0) ∧ (N 0 ≤ q → c = 0) from hI 21) (N 0) c36 z cz
        rw [if_pos cz, if_pos cz, d2, d4 (Nat.le_refl _), if_neg (by decide)]
      · rw [if_neg cz, if_neg cz]) (fun _ => by
      rw [hY5, w5]
      simp only [xC, eS 51 (by decide)]
      congr 5
      funext z
      rw [(show t = 0 → ∀ j, S 51 j = 0 from hI 28) ht0]
      split <;> rfl)) (kc (P := fun k => h (Y k) ≠ none) (by rw [hY3, hIW.2.1]; exact fun z => by cases z) (by rw [hY4, w4]; exact fun z => by cases z) (by rw [hY5, w5]; exact fun z => by cases z)) (vs := _) (by show _ = some (Sum.inr (7, _)); rw [show xkd 0 = 3 from rfl, hY3]; exact hIW.2.1)) dX8_phase_57 mt_Jx4a65c_add_9ea2d mv_Jx4a65c_add_9ea2d ml_X8_84 (rx1 hR (show 0 < 5 by decide)) rfl (Nat.le_of_ble_eq_true rfl) (Nat.le_of_ble_eq_true rfl) (Nat.le_of_ble_eq_true rfl) (Nat.le_of_ble_eq_true rfl) (Nat.le_of_ble_eq_true rfl) rfl (fun h hR => ?_)
          obtain ⟨ea, c2, hR⟩ := hR
          refine yr_pop 61 C dX8_phase_60 rfl rfl ?_
          have hcell := rx3 hR (p := N 0) (show N 0 < va_up N 0 (N 0 + 1) 0 by rw [va_up_self']; omega)
          rw [pushB_new (k := 3) rfl (by decide)] at hcell
          refine yr_aload_n 62 C dX8_phase_61 rfl rfl rfl ?_
          refine yr_get 65 C dX8_phase_62 fl_X8_88 hcell rfl rfl ?_
          refine yr_iret C dX8_phase_65 hr (Nat.le_of_ble_eq_true rfl) (Nat.le_of_ble_eq_true rfl) ?_
          have a1 : m_in (nI kk) 0 4 = true := by
            have z : ¬ (4 : Int32) < nI kk := Int32.not_lt.mpr c6
            simp [m_in, z, c1]
          have a2 : ¬ nI (N 0) = 8 := fun z => by
            have := nI_inj (b := 8) (by omega) (by decide) z
            omega
          have es : sp_phase S (nI kk) = (nI (N 0) + 1 - 1, S1) := by
            unfold sp_phase
            rw [a1, if_pos rfl, if_pos c15, h0.1, if_neg a2, ix_nI (by omega), hS1]
          rw [es]
          have z := mI_phase hkk c36 hI
          rw [← hS1] at z
          rw [← eS 5 (by decide)] at hR
          exact ⟨by rw [nI_1, nI_pred], XI_of (x0 := B 0 0) hR z rfl (Nat.le_refl t)⟩
        · refine yr_bipush 35 C (-2) dX8_phase_33 rfl rfl ?_
          refine yr_iret C dX8_phase_35 hr (Nat.le_of_ble_eq_true rfl) (Nat.le_of_ble_eq_true rfl) ?_
          have a1 : m_in q 0 4 = true := by
            have z : ¬ (4 : Int32) < q := Int32.not_lt.mpr c6
            simp [m_in, z, c1]
          have a2 : N 0 = 8 := by
            rcases Nat.lt_or_ge (N 0) 8 with z | z
            · exact absurd (nI_lt (b := 8) z (by decide)) c30
            · omega
          unfold sp_phase
          rw [a1, if_pos rfl, if_pos c15, h0.1, a2, if_pos (show nI 8 = 8 from rfl)]
          exact ⟨rfl, mc, cap, B, N, t, rfl, hR, hI, Nat.le_refl t⟩
      · refine yr_bipush 20 C (-3) dX8_phase_18 rfl rfl ?_
        refine yr_iret C dX8_phase_20 hr (Nat.le_of_ble_eq_true rfl) (Nat.le_of_ble_eq_true rfl) ?_
        have a1 : m_in q 0 4 = true := by
          have z : ¬ (4 : Int32) < q := Int32.not_lt.mpr c6
          simp [m_in, z, c1]
        unfold sp_phase
        rw [a1, if_pos rfl, if_neg c15]
        exact ⟨rfl, mc, cap, B, N, t, rfl, hR, hI, Nat.le_refl t⟩
    · refine yr_iconst 10 C (-1) dX8_phase_9 rfl rfl ?_
      refine yr_iret C dX8_phase_10 hr (Nat.le_of_ble_eq_true rfl) (Nat.le_of_ble_eq_true rfl) ?_
      have a1 : m_in q 0 4 = false := by
        have z : (4 : Int32) < q := Int32.not_le.mp c6
        simp [m_in, z]
      unfold sp_phase
      rw [a1]
      exact ⟨rfl, mc, cap, B, N, t, rfl, hR, hI, Nat.le_refl t⟩
end X23
