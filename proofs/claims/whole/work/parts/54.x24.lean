theorem ru3_4 {dA : Nat → ClassId} {t0 : Nat} {S : yS} {lf mc : Nat → Int32} {cap : Nat → Nat} {B : Nat → Nat → Nat} {N : Nat → Nat} {h : yH} (hR : RX dA t0 S lf mc cap B N h) {p : Nat} (hp : p < N 0) (u : Int32) (v : Value) (hv : v = va_rf (xr (B 8) u)) : RX dA t0 (mset S 4 p u) lf mc cap B N (va_up h (B 3 p) (some (.inr (7, (xP S lf B p).set 4 v)))) := by
  subst hv
  have e : (xP S lf B p).set 4 (va_rf (xr (B 8) u)) = xP (mset S 4 p u) lf B p := by simp [xP, mset_same, mset_ne]
  rw [e]
  have q := RX_row hR (k := 3) (i := p) (r := 4) (j := p) (u := u) hp (by decide) (by decide) (fun i' _ ne => by simp only [xC, xP_oth ne])
  simpa only [xC] using q
theorem pushB_old {B : Nat → Nat → Nat} {li n ea k i : Nat} {Y : Nat → Nat} (hk : xnew li k = false) (h2 : k ≠ 2) : pushB B li n ea Y k i = B k i := by
  unfold pushB
  rw [if_neg (fun q => h2 q.1), if_neg (fun q => by rw [hk] at q; exact absurd q.1 (by decide))]
theorem mset_comm (S : yS) {k k' j j' : Nat} {v v' : Int32} (h : k ≠ k') : mset (mset S k j v) k' j' v' = mset (mset S k' j' v') k j v := by
  funext r
  by_cases c1 : r = k
  · subst c1
    rw [mset_ne _ _ h, mset_row, mset_row, mset_ne _ _ h]
  · by_cases c2 : r = k'
    · subst c2
      rw [mset_ne _ _ c1, mset_row, mset_row, mset_ne _ _ c1]
    · rw [mset_ne _ _ c2, mset_ne _ _ c1, mset_ne _ _ c1, mset_ne _ _ c2]
theorem xV_imp2 {S S' : yS} {cap N : Nat → Nat} (h : ∀ i, i < N 2 → 0 ≤ S' 20 i → 0 ≤ S 20 i) (k i : Nat) (v : xV S' cap N k i) : xV S cap N k i := by
  revert v
  by_cases hk : k < 17
  · refine c17 (P := fun k => xV S' cap N k i → xV S cap N k i) ?_ ?_ ?_ ?_ ?_ ?_ ?_ ?_ ?_ ?_ ?_ ?_ ?_ ?_ ?_ ?_ ?_ k hk
    all_goals simp only [xV]
    all_goals first | exact fun q => q | exact fun q => ⟨q.1, h i q.1 q.2⟩
  · exact fun q => absurd (xV_lt q) hk
theorem ms5_at {S : yS} {n k1 k2 k3 k4 k5 : Nat} {a b c d f : Int32} (h : k1 < k2) (h2 : k2 < k3) (h3 : k3 < k4) (h4 : k4 < k5) (q : Nat) : let T := mset (mset (mset (mset (mset S k1 n a) k2 n b) k3 n c) k4 n d) k5 n f
   T k1 q = (if q = n then a else S k1 q) ∧ T k2 q = (if q = n then b else S k2 q) ∧ T k3 q = (if q = n then c else S k3 q) ∧ T k4 q = (if q = n then d else S k4 q) ∧ T k5 q = (if q = n then f else S k5 q) := by
  refine ⟨?_, ?_, ?_, ?_, ?_⟩
  · rw [mset_ne _ _ (by omega), mset_ne _ _ (by omega), mset_ne _ _ (by omega), mset_ne _ _ (by omega), mset_at]
  · rw [mset_ne _ _ (by omega), mset_ne _ _ (by omega), mset_ne _ _ (by omega), mset_at, mset_ne _ _ (by omega)]
  · rw [mset_ne _ _ (by omega), mset_ne _ _ (by omega), mset_at, mset_ne _ _ (by omega), mset_ne _ _ (by omega)]
  · rw [mset_ne _ _ (by omega), mset_at, mset_ne _ _ (by omega), mset_ne _ _ (by omega), mset_ne _ _ (by omega)]
  · rw [mset_at, mset_ne _ _ (by omega), mset_ne _ _ (by omega), mset_ne _ _ (by omega), mset_ne _ _ (by omega)]
theorem m_in_lo {n lo : Int32} {k : Nat} (h0 : ¬ lo < 0) (hk : k < 2 ^ 30) (h : m_in n lo (nI k) = true) : ∃ j : Nat, j ≤ k ∧ n = nI j := by
  refine m_in_3 hk ?_
  simp only [m_in, Bool.and_eq_true, Bool.not_eq_true', decide_eq_false_iff_not] at h ⊢
  exact ⟨fun q => h0 (Int32.lt_of_le_of_lt (Int32.not_lt.mp h.1) q), h.2⟩
section X24
variable {D : va_G} {dA : Nat → ClassId} {t0 mi : Nat} {S : yS} {lf mc : Nat → Int32} {cap : Nat → Nat} {B : Nat → Nat → Nat} {N : Nat → Nat}
variable {t : Nat}
set_option maxHeartbeats 4000000 in
set_option maxRecDepth 100000 in
theorem xc_table (q x y z u : Int32) (hI : mI S (N 0) (N 1) (N 2) (N 3) (N 4) t) (ht : t < 2 ^ 20) (hlf : lf = S 5) (h : yH) (hR : RX dA t0 (S) lf mc cap B N h) : yM (yZ t0 mi D dA) D yX8_table cX8_table 7 (some .int) 7 2 35 [.ref (B 0 0), .int q, .int x, .int y, .int z, .int u] h (fun r h' => r = some (.int (sp_table S q x y z u).1) ∧ XI dA t0 (sp_table S q x y z u).2 (B 0 0) t h') := by
  refine yM_of (yZ_ok t0 mi D dA) (by decide) rfl (Nat.le_of_ble_eq_true rfl) ?_
  intro p l e s m args below meth c A C hr hin
  show yW p l e (yR 7 2 35) s m args below meth c 7 D A 0 0 _ 0 [some (.ref (B 0 0)), some (.int q), some (.int x), some (.int y), some (.int z), some (.int u), none] [] h
  subst hlf
  have h0 : S 1 0 = nI (N 0) ∧ N 0 ≤ 8 := hI 0
  have h1 : S 17 0 = nI (N 1) ∧ N 1 ≤ 6 := hI 1
  have h2 : S 19 0 = nI (N 2) ∧ N 2 ≤ 12 := hI 2
  have h5 : S 0 0 = nI t := hI 5
  have hB := mB_of_mI hI ht
  have h3 : S 23 0 = nI (N 3) ∧ N 3 ≤ 16 := hI 3
  refine yr_aload_n 1 C dX8_table_0 rfl rfl rfl ?_
  refine yr_iload_n 2 C dX8_table_1 rfl rfl ?_
  refine yr_V1v 5 C (xc_phaseAt _ h0 _ hR) dX8_table_2 mt_X8_phaseAt mv_X8_phaseAt ml_X8_91 (rx0 hR) rfl (Nat.le_of_ble_eq_true rfl) (Nat.le_of_ble_eq_true rfl) (Nat.le_of_ble_eq_true rfl) (Nat.le_of_ble_eq_true rfl) (Nat.le_of_ble_eq_true rfl) rfl (fun h hR => ?_)
  rcases ph_cases (B := B) hI q with ⟨e1, e2⟩ | ⟨j, hj, rfl, e1, e2⟩
  · rw [e2]
    refine yr_astore6 7 C dX8_table_5 rfl (by decide) rfl ?_
    refine yr_aload 9 C dX8_table_7 rfl rfl rfl ?_
    refine yr_ifnull_n 21 C dX8_table_9 (by decide) ?_
    refine yr_iconst 22 C (-1) dX8_table_21 rfl rfl ?_
    refine yr_iret C dX8_table_22 hr (Nat.le_of_ble_eq_true rfl) (Nat.le_of_ble_eq_true rfl) ?_
    have es : sp_table S q x y z u = (-1, S) := by simp [sp_table, e1]
    rw [es]
    exact ⟨rfl, mc, cap, B, N, t, rfl, hR, hI, Nat.le_refl t⟩
  · rw [e2]
    have ej : ix (nI j) = j := ix_nI (by omega)
    refine yr_astore6 7 C dX8_table_5 rfl (by decide) rfl ?_
    refine yr_aload 9 C dX8_table_7 rfl rfl rfl ?_
    refine yr_ifnull_r 12 C dX8_table_9 rfl ?_
    refine yr_iload 14 C dX8_table_12 rfl rfl ?_
    refine yr_aload_n 15 C dX8_table_14 rfl rfl rfl ?_
    refine yr_get 18 C dX8_table_15 fl_X8_49 (rx0 hR) rfl rfl ?_
    refine yr_icmp_ge 23 21 C  dX8_table_18 (by decide) rfl (fun c18 => ?_) (fun c18 => ?_)
    · refine yr_iload_n 24 C dX8_table_23 rfl rfl ?_
      refine yr_iconst 25 C (1) dX8_table_24 rfl rfl ?_
      refine yr_bipush 27 C (60) dX8_table_25 rfl rfl ?_
      refine yr_S3v 30 C (xc_isWithin _ _ _ _ hR) dX8_table_27 mt_X8_isWithin ms_X8_isWithin ml_X8_95 (Nat.le_of_ble_eq_true rfl) (Nat.le_of_ble_eq_true rfl) (Nat.le_of_ble_eq_true rfl) (Nat.le_of_ble_eq_true rfl) (Nat.le_of_ble_eq_true rfl) rfl (fun h e => ?_)
      subst e
      refine yb_ne 35 33 C  dX8_table_30 (by decide) rfl (fun c30 => ?_) (fun c30 => ?_)
      · refine yr_iload_n 36 C dX8_table_35 rfl rfl ?_
        refine yr_iload_n 37 C dX8_table_36 rfl rfl ?_
        refine yr_bipush 39 C (120) dX8_table_37 rfl rfl ?_
        refine yr_S3v 42 C (xc_isWithin _ _ _ _ hR) dX8_table_39 mt_X8_isWithin ms_X8_isWithin ml_X8_95 (Nat.le_of_ble_eq_true rfl) (Nat.le_of_ble_eq_true rfl) (Nat.le_of_ble_eq_true rfl) (Nat.le_of_ble_eq_true rfl) (Nat.le_of_ble_eq_true rfl) rfl (fun h e => ?_)
        subst e
        refine yb_ne 47 45 C  dX8_table_42 (by decide) rfl (fun c42 => ?_) (fun c42 => ?_)
        · refine yr_iload 49 C dX8_table_47 rfl rfl ?_
          refine yr_iconst 50 C (0) dX8_table_49 rfl rfl ?_
          refine yr_bipush 52 C (9) dX8_table_50 rfl rfl ?_
          refine yr_S3v 55 C (xc_isWithin _ _ _ _ hR) dX8_table_52 mt_X8_isWithin ms_X8_isWithin ml_X8_95 (Nat.le_of_ble_eq_true rfl) (Nat.le_of_ble_eq_true rfl) (Nat.le_of_ble_eq_true rfl) (Nat.le_of_ble_eq_true rfl) (Nat.le_of_ble_eq_true rfl) rfl (fun h e => ?_)
          subst e
          refine yb_ne 60 58 C  dX8_table_55 (by decide) rfl (fun c55 => ?_) (fun c55 => ?_)
          · refine yr_aload_n 61 C dX8_table_60 rfl rfl rfl ?_
            refine yr_get 64 C dX8_table_61 fl_X8_22 (rx0 hR) rfl rfl ?_
            refine yr_V0v 67 C (jl_size (show 3 < 5 by decide) _ hR) dX8_table_64 mt_Jx4a65c_size_8abf5 mv_Jx4a65c_size_8abf5 ml_X8_75 (rx1 hR (show 3 < 5 by decide)) rfl (Nat.le_of_ble_eq_true rfl) (Nat.le_of_ble_eq_true rfl) (Nat.le_of_ble_eq_true rfl) (Nat.le_of_ble_eq_true rfl) (Nat.le_of_ble_eq_true rfl) rfl (fun h e => ?_)
            subst e
            refine yr_bipush 69 C (16) dX8_table_67 rfl rfl ?_
            refine yr_icmp_lt 75 72 C  dX8_table_69 (by decide) rfl (fun c69 => ?_) (fun c69 => ?_)
            · have c76 : N 3 < 16 := by
                rcases Nat.lt_or_ge (N 3) 16 with z | z
                · exact z
                · exact absurd c69 (nI_nlt (b := 16) z (by omega))
              refine yr_aload_n 76 C dX8_table_75 rfl rfl rfl ?_
              refine yr_get 79 C dX8_table_76 fl_X8_22 (rx0 hR) rfl rfl ?_
              rename yH => hb
              refine yr_new 82 C dX8_table_79 nw_152 (Nat.le_of_ble_eq_true rfl) (Nat.le_of_ble_eq_true rfl) rfl (fun a ha0 => ?_)
              have hs1 := sub_up (e := some (.inr (5, [.null, .int 0, .int 0, .int 0, .int 0]))) ha0
              have ha1 := va_up_self' hb a (some (.inr (5, [.null, .int 0, .int 0, .int 0, .int 0])))
              have hRb := hR
              replace hR := RX_sub hR hs1
              generalize va_up hb a (some (.inr (5, [.null, .int 0, .int 0, .int 0, .int 0]))) = h1 at hR hs1 ha1 ⊢
              refine yr_dup 83 C dX8_table_82 rfl rfl ?_
              refine yr_aload 85 C dX8_table_83 rfl rfl rfl ?_
              refine yr_iload_n 86 C dX8_table_85 rfl rfl ?_
              refine yr_iload_n 87 C dX8_table_86 rfl rfl ?_
              refine yr_iload 89 C dX8_table_87 rfl rfl ?_
              refine yr_iload 91 C dX8_table_89 rfl rfl ?_
              refine yr_I5u 94 C (xi_order a (B 3 j) x y z u _ ha1) dX8_table_91 mt_X4_init rfl mi_X4_init ml_X8_154 (Nat.le_of_ble_eq_true rfl) (Nat.le_of_ble_eq_true rfl) (Nat.le_of_ble_eq_true rfl) (Nat.le_of_ble_eq_true rfl) (Nat.le_of_ble_eq_true rfl) rfl (fun h hIW => ?_)
              have hs2 := IW_sub hIW hs1 ha0
              replace hR := RX_sub hRb hs2
              have eS : ∀ r, r ∉ ([23, 24, 25, 26, 27, 28] : List Nat) → mset (mset (mset (mset (mset (mset S 24 (N 3) (nI j)) 25 (N 3) x) 26 (N 3) y) 27 (N 3) z) 28 (N 3) u) 23 0 (nI (N 3) + 1) r = S r := fun r hr => by
                simp at hr
                simp [mset_ne, hr]
              have eA : ∀ k, mset (mset (mset (mset (mset (mset S 24 (N 3) (nI j)) 25 (N 3) x) 26 (N 3) y) 27 (N 3) z) 28 (N 3) u) 23 0 (nI (N 3) + 1) 24 k = (if k = N 3 then nI j else S 24 k) ∧ mset (mset (mset (mset (mset (mset S 24 (N 3) (nI j)) 25 (N 3) x) 26 (N 3) y) 27 (N 3) z) 28 (N 3) u) 23 0 (nI (N 3) + 1) 25 k = (if k = N 3 then x else S 25 k) ∧ mset (mset (mset (mset (mset (mset S 24 (N 3) (nI j)) 25 (N 3) x) 26 (N 3) y) 27 (N 3) z) 28 (N 3) u) 23 0 (nI (N 3) + 1) 26 k = (if k = N 3 then y else S 26 k) ∧ mset (mset (mset (mset (mset (mset S 24 (N 3) (nI j)) 25 (N 3) x) 26 (N 3) y) 27 (N 3) z) 28 (N 3) u) 23 0 (nI (N 3) + 1) 27 k = (if k = N 3 then z else S 27 k) ∧ mset (mset (mset (mset (mset (mset S 24 (N 3) (nI j)) 25 (N 3) x) 26 (N 3) y) 27 (N 3) z) 28 (N 3) u) 23 0 (nI (N 3) + 1) 28 k = (if k = N 3 then u else S 28 k) := fun k => by
                rw [mset_ne _ _ (by decide), mset_ne _ _ (by decide), mset_ne _ _ (by decide), mset_ne _ _ (by decide), mset_ne _ _ (by decide)]
                exact ms5_at (k1 := 24) (k2 := 25) (k3 := 26) (k4 := 27) (k5 := 28) (by decide) (by decide) (by decide) (by decide) k
              obtain ⟨S1, hS1⟩ : ∃ S1, S1 = mset (mset (mset (mset (mset (mset S 24 (N 3) (nI j)) 25 (N 3) x) 26 (N 3) y) 27 (N 3) z) 28 (N 3) u) 23 0 (nI (N 3) + 1) := ⟨_, rfl⟩
              rw [← hS1] at eS eA
              have hF : RF S1 N := by
                unfold RF
                rw [eS 34 (by decide), eS 39 (by decide), eS 4 (by decide), eS 18 (by decide), eS 30 (by decide), eS 31 (by decide)]
                obtain ⟨r1, r2, r3, r4, r5⟩ := RF_of hI
                exact ⟨r1, r2, r3, fun k hk => by rw [(eA k).1, if_neg (by omega)]; exact r4 k hk, r5⟩
              have hRf := RX_far (S' := S1) hRb (xV_imp (by rw [eS 20 (by decide)]; exact fun i q => q)) (fun k i v => far_C (t0 := t0) (h := hb) (L := [23, 24, 25, 26, 27, 28]) (k0 := 11) (xV_imp (by rw [eS 20 (by decide)]; exact fun i q => q) k i v) eS (by decide) (fun w => by
                subst w
                have hi : i < N 3 := v
                have ne : i ≠ N 3 := by omega
                obtain ⟨b1, b2, b3, b4, b5⟩ := eA i
                simp only [xC, b1, b2, b3, b4, b5, if_neg ne]))
              obtain ⟨Y, hY11⟩ : ∃ Y : Nat → Nat, Y 11 = a := ⟨fun _ => a, rfl⟩
              have kc : ∀ {P : Nat → Prop}, P 11 → ∀ k, xnew 3 k = true → P k := fun {P} p1 k hk => by
                simp only [xnew, beq_iff_eq] at hk
                rw [hk]
                exact p1
              rw [← hY11]
              refine yr_V1v 97 C (jl_add (li := 3) (Y := Y) (by decide) hRf hF hs2 (kc (P := fun k => hb (Y k) = none) (by rw [hY11]; exact ha0)) (fun k k' hk hk' _ => (kc (P := fun k => k = 11) rfl k hk).trans (kc (P := fun k => k = 11) rfl k' hk').symm) (fun ea c2 => kc (fun _ => by
      rw [hY11, hIW.2.1]
      obtain ⟨b1, b2, b3, b4, b5⟩ := eA (N 3)
      simp only [xC, b1, b2, b3, b4, b5, if_true, ix_nI (show j < 2 ^ 31 by omega), pushB_old (k := 3) (show xnew 3 3 = false from rfl) (by decide)])) (kc (P := fun k => h (Y k) ≠ none) (by rw [hY11, hIW.2.1]; exact fun z => by cases z)) (vs := _) (by show _ = some (Sum.inr (5, _)); rw [show xkd 3 = 11 from rfl, hY11]; exact hIW.2.1)) dX8_table_94 mt_Jx4a65c_add_9ea2d mv_Jx4a65c_add_9ea2d ml_X8_84 (rx1 hR (show 3 < 5 by decide)) rfl (Nat.le_of_ble_eq_true rfl) (Nat.le_of_ble_eq_true rfl) (Nat.le_of_ble_eq_true rfl) (Nat.le_of_ble_eq_true rfl) (Nat.le_of_ble_eq_true rfl) rfl (fun h hR => ?_)
              obtain ⟨ea, c2, hR⟩ := hR
              refine yr_pop 98 C dX8_table_97 rfl rfl ?_
              rw [show B 0 0 = pushB B 3 (N 3) ea Y 0 0 from (pushB_old rfl (by decide)).symm]
              refine yr_aload_n 99 C dX8_table_98 rfl rfl rfl ?_
              refine yr_get 102 C dX8_table_99 fl_X8_22 (rx0 hR) rfl rfl ?_
              refine yr_V0v 105 C (jl_size (show 3 < 5 by decide) _ hR) dX8_table_102 mt_Jx4a65c_size_8abf5 mv_Jx4a65c_size_8abf5 ml_X8_75 (rx1 hR (show 3 < 5 by decide)) rfl (Nat.le_of_ble_eq_true rfl) (Nat.le_of_ble_eq_true rfl) (Nat.le_of_ble_eq_true rfl) (Nat.le_of_ble_eq_true rfl) (Nat.le_of_ble_eq_true rfl) rfl (fun h e => ?_)
              subst e
              rw [va_up_self']
              refine yr_iret C dX8_table_105 hr (Nat.le_of_ble_eq_true rfl) (Nat.le_of_ble_eq_true rfl) ?_
              have a3 : ¬ nI (N 3) = 16 := fun z => by
                have := nI_inj (b := 16) (by omega) (by decide) z
                omega
              have a9 : S 0 0 ≤ u := c18
              have es : sp_table S (nI j) x y z u = (nI (N 3) + 1, S1) := by
                rw [hS1]
                have i3 : ix (nI (N 3)) = N 3 := ix_nI (by omega)
                simp [sp_table, e1, c30, c42, c55, a9, h3.1, a3, i3]
              rw [es]
              obtain ⟨xa, hxa, rfl⟩ := m_in_lo (lo := 1) (k := 60) (by decide) (by decide) c30
              obtain ⟨yb, hyb, rfl⟩ := m_in_lo (k := 120) (by exact nI_pos (by omega)) (by decide) c42
              obtain ⟨zc, hzc, rfl⟩ := m_in_3 (k := 9) (by decide) c55
              have zI := mI_table (u := u) hj hxa hyb hzc c76 hI
              rw [← hS1] at zI
              rw [← eS 5 (by decide)] at hR
              exact ⟨by rw [nI_1], XI_of hR zI rfl (Nat.le_refl t)⟩
            · refine yr_bipush 74 C (-2) dX8_table_72 rfl rfl ?_
              refine yr_iret C dX8_table_74 hr (Nat.le_of_ble_eq_true rfl) (Nat.le_of_ble_eq_true rfl) ?_
              have a2 : N 3 = 16 := by
                rcases Nat.lt_or_ge (N 3) 16 with z | z
                · exact absurd (nI_lt (b := 16) z (by decide)) c69
                · omega
              have a3 : S 23 0 = 16 := by rw [h3.1, a2]; rfl
              have a9 : S 0 0 ≤ u := c18
              have es : sp_table S (nI j) x y z u = (-2, S) := by simp [sp_table, e1, c30, c42, c55, a9, a3]
              rw [es]
              exact ⟨rfl, mc, cap, B, N, t, rfl, hR, hI, Nat.le_refl t⟩
          · refine yr_iconst 59 C (-1) dX8_table_58 rfl rfl ?_
            refine yr_iret C dX8_table_59 hr (Nat.le_of_ble_eq_true rfl) (Nat.le_of_ble_eq_true rfl) ?_
            have es : sp_table S (nI j) x y z u = (-1, S) := by simp [sp_table, c55]
            rw [es]
            exact ⟨rfl, mc, cap, B, N, t, rfl, hR, hI, Nat.le_refl t⟩
        · refine yr_iconst 46 C (-1) dX8_table_45 rfl rfl ?_
          refine yr_iret C dX8_table_46 hr (Nat.le_of_ble_eq_true rfl) (Nat.le_of_ble_eq_true rfl) ?_
          have es : sp_table S (nI j) x y z u = (-1, S) := by simp [sp_table, c42]
          rw [es]
          exact ⟨rfl, mc, cap, B, N, t, rfl, hR, hI, Nat.le_refl t⟩
      · refine yr_iconst 34 C (-1) dX8_table_33 rfl rfl ?_
        refine yr_iret C dX8_table_34 hr (Nat.le_of_ble_eq_true rfl) (Nat.le_of_ble_eq_true rfl) ?_
        have es : sp_table S (nI j) x y z u = (-1, S) := by simp [sp_table, c30]
        rw [es]
        exact ⟨rfl, mc, cap, B, N, t, rfl, hR, hI, Nat.le_refl t⟩
    · refine yr_iconst 22 C (-1) dX8_table_21 rfl rfl ?_
      refine yr_iret C dX8_table_22 hr (Nat.le_of_ble_eq_true rfl) (Nat.le_of_ble_eq_true rfl) ?_
      have a9 : ¬ S 0 0 ≤ u := c18
      have es : sp_table S (nI j) x y z u = (-1, S) := by simp [sp_table, a9]
      rw [es]
      exact ⟨rfl, mc, cap, B, N, t, rfl, hR, hI, Nat.le_refl t⟩
end X24
