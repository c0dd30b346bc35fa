section X25
variable {D : va_G} {dA : Nat → ClassId} {t0 mi : Nat} {S : yS} {lf mc : Nat → Int32} {cap : Nat → Nat} {B : Nat → Nat → Nat} {N : Nat → Nat}
variable {t : Nat}
set_option maxHeartbeats 4000000 in
set_option maxRecDepth 100000 in
theorem xc_pair (q w x : Int32) (hI : mI S (N 0) (N 1) (N 2) (N 3) (N 4) t) (ht : t < 2 ^ 20) (hlf : lf = S 5) (h : yH) (hR : RX dA t0 (S) lf mc cap B N h) : yM (yZ t0 mi D dA) D yX8_pair cX8_pair 6 (some .int) 7 2 34 [.ref (B 0 0), .int q, .int w, .int x] h (fun r h' => r = some (.int (sp_pair S q w x).1) ∧ XI dA t0 (sp_pair S q w x).2 (B 0 0) t h') := by
  refine yM_of (yZ_ok t0 mi D dA) (by decide) rfl (Nat.le_of_ble_eq_true rfl) ?_
  intro p l e s m args below meth c A C hr hin
  show yW p l e (yR 7 2 34) s m args below meth c 6 D A 0 0 _ 0 [some (.ref (B 0 0)), some (.int q), some (.int w), some (.int x), none, none] [] h
  subst hlf
  have h0 : S 1 0 = nI (N 0) ∧ N 0 ≤ 8 := hI 0
  have h1 : S 17 0 = nI (N 1) ∧ N 1 ≤ 6 := hI 1
  have h2 : S 19 0 = nI (N 2) ∧ N 2 ≤ 12 := hI 2
  have h5 : S 0 0 = nI t := hI 5
  have hB := mB_of_mI hI ht
  have h4 : S 29 0 = nI (N 4) ∧ N 4 ≤ 6 := hI 4
  refine yr_aload_n 1 C dX8_pair_0 rfl rfl rfl ?_
  refine yr_iload_n 2 C dX8_pair_1 rfl rfl ?_
  refine yr_V1v 5 C (xc_detectorAt _ h2 _ hR) dX8_pair_2 mt_X8_detectorAt mv_X8_detectorAt ml_X8_136 (rx0 hR) rfl (Nat.le_of_ble_eq_true rfl) (Nat.le_of_ble_eq_true rfl) (Nat.le_of_ble_eq_true rfl) (Nat.le_of_ble_eq_true rfl) (Nat.le_of_ble_eq_true rfl) rfl (fun h hR => ?_)
  rcases dt_cases (B := B) hI q with ⟨e1, e2⟩ | ⟨j, hj, rfl, e1, e2⟩
  · rw [e2]
    refine yr_astore4 7 C dX8_pair_5 rfl (by decide) rfl ?_
    refine yr_aload_n 8 C dX8_pair_7 rfl rfl rfl ?_
    refine yr_iload_n 9 C dX8_pair_8 rfl rfl ?_
    refine yr_V1v 12 C (xc_detectorAt _ h2 _ hR) dX8_pair_9 mt_X8_detectorAt mv_X8_detectorAt ml_X8_136 (rx0 hR) rfl (Nat.le_of_ble_eq_true rfl) (Nat.le_of_ble_eq_true rfl) (Nat.le_of_ble_eq_true rfl) (Nat.le_of_ble_eq_true rfl) (Nat.le_of_ble_eq_true rfl) rfl (fun h hR => ?_)
    rcases dt_cases (B := B) hI w with ⟨f1, f2⟩ | ⟨k, hk, rfl, f1, f2⟩
    · rw [f2]
      refine yr_astore5 14 C dX8_pair_12 rfl (by decide) rfl ?_
      refine yr_aload 16 C dX8_pair_14 rfl rfl rfl ?_
      refine yr_ifnull_n 31 C dX8_pair_16 (by decide) ?_
      refine yr_iconst 32 C (-1) dX8_pair_31 rfl rfl ?_
      refine yr_iret C dX8_pair_32 hr (Nat.le_of_ble_eq_true rfl) (Nat.le_of_ble_eq_true rfl) ?_
      have es : sp_pair S q w x = (-1, S) := by simp [sp_pair, e1]
      rw [es]
      exact ⟨rfl, mc, cap, B, N, t, rfl, hR, hI, Nat.le_refl t⟩
    · rw [f2]
      have ek : ix (nI k) = k := ix_nI (by omega)
      refine yr_astore5 14 C dX8_pair_12 rfl (by decide) rfl ?_
      refine yr_aload 16 C dX8_pair_14 rfl rfl rfl ?_
      refine yr_ifnull_n 31 C dX8_pair_16 (by decide) ?_
      refine yr_iconst 32 C (-1) dX8_pair_31 rfl rfl ?_
      refine yr_iret C dX8_pair_32 hr (Nat.le_of_ble_eq_true rfl) (Nat.le_of_ble_eq_true rfl) ?_
      have es : sp_pair S q (nI k) x = (-1, S) := by simp [sp_pair, e1]
      rw [es]
      exact ⟨rfl, mc, cap, B, N, t, rfl, hR, hI, Nat.le_refl t⟩
  · rw [e2]
    have ej : ix (nI j) = j := ix_nI (by omega)
    refine yr_astore4 7 C dX8_pair_5 rfl (by decide) rfl ?_
    refine yr_aload_n 8 C dX8_pair_7 rfl rfl rfl ?_
    refine yr_iload_n 9 C dX8_pair_8 rfl rfl ?_
    refine yr_V1v 12 C (xc_detectorAt _ h2 _ hR) dX8_pair_9 mt_X8_detectorAt mv_X8_detectorAt ml_X8_136 (rx0 hR) rfl (Nat.le_of_ble_eq_true rfl) (Nat.le_of_ble_eq_true rfl) (Nat.le_of_ble_eq_true rfl) (Nat.le_of_ble_eq_true rfl) (Nat.le_of_ble_eq_true rfl) rfl (fun h hR => ?_)
    rcases dt_cases (B := B) hI w with ⟨f1, f2⟩ | ⟨k, hk, rfl, f1, f2⟩
    · rw [f2]
      refine yr_astore5 14 C dX8_pair_12 rfl (by decide) rfl ?_
      refine yr_aload 16 C dX8_pair_14 rfl rfl rfl ?_
      refine yr_ifnull_r 19 C dX8_pair_16 rfl ?_
      refine yr_aload 21 C dX8_pair_19 rfl rfl rfl ?_
      refine yr_ifnull_n 31 C dX8_pair_21 (by decide) ?_
      refine yr_iconst 32 C (-1) dX8_pair_31 rfl rfl ?_
      refine yr_iret C dX8_pair_32 hr (Nat.le_of_ble_eq_true rfl) (Nat.le_of_ble_eq_true rfl) ?_
      have es : sp_pair S (nI j) w x = (-1, S) := by simp [sp_pair, f1]
      rw [es]
      exact ⟨rfl, mc, cap, B, N, t, rfl, hR, hI, Nat.le_refl t⟩
    · rw [f2]
      have ek : ix (nI k) = k := ix_nI (by omega)
      refine yr_astore5 14 C dX8_pair_12 rfl (by decide) rfl ?_
      refine yr_aload 16 C dX8_pair_14 rfl rfl rfl ?_
      refine yr_ifnull_r 19 C dX8_pair_16 rfl ?_
      refine yr_aload 21 C dX8_pair_19 rfl rfl rfl ?_
      refine yr_ifnull_r 24 C dX8_pair_21 rfl ?_
      refine yr_aload 26 C dX8_pair_24 rfl rfl rfl ?_
      refine yr_aload 28 C dX8_pair_26 rfl rfl rfl ?_
      refine yr_acmp_ne 33 31 C (x := some (B 8 j)) (y := some (B 8 k)) dX8_pair_28 (by decide) rfl (fun c28 => ?_) (fun c28 => ?_)
      · refine yr_iload_n 34 C dX8_pair_33 rfl rfl ?_
        refine yr_iconst 35 C (1) dX8_pair_34 rfl rfl ?_
        refine yr_bipush 37 C (60) dX8_pair_35 rfl rfl ?_
        refine yr_S3v 40 C (xc_isWithin _ _ _ _ hR) dX8_pair_37 mt_X8_isWithin ms_X8_isWithin ml_X8_95 (Nat.le_of_ble_eq_true rfl) (Nat.le_of_ble_eq_true rfl) (Nat.le_of_ble_eq_true rfl) (Nat.le_of_ble_eq_true rfl) (Nat.le_of_ble_eq_true rfl) rfl (fun h e => ?_)
        subst e
        refine yb_ne 45 43 C  dX8_pair_40 (by decide) rfl (fun c40 => ?_) (fun c40 => ?_)
        · refine yr_aload_n 46 C dX8_pair_45 rfl rfl rfl ?_
          refine yr_get 49 C dX8_pair_46 fl_X8_25 (rx0 hR) rfl rfl ?_
          refine yr_V0v 52 C (jl_size (show 4 < 5 by decide) _ hR) dX8_pair_49 mt_Jx4a65c_size_8abf5 mv_Jx4a65c_size_8abf5 ml_X8_75 (rx1 hR (show 4 < 5 by decide)) rfl (Nat.le_of_ble_eq_true rfl) (Nat.le_of_ble_eq_true rfl) (Nat.le_of_ble_eq_true rfl) (Nat.le_of_ble_eq_true rfl) (Nat.le_of_ble_eq_true rfl) rfl (fun h e => ?_)
          subst e
          refine yr_bipush 54 C (6) dX8_pair_52 rfl rfl ?_
          refine yr_icmp_lt 60 57 C  dX8_pair_54 (by decide) rfl (fun c54 => ?_) (fun c54 => ?_)
          · have c61 : N 4 < 6 := by
              rcases Nat.lt_or_ge (N 4) 6 with z | z
              · exact z
              · exact absurd c54 (nI_nlt (b := 6) z (by omega))
            refine yr_aload_n 61 C dX8_pair_60 rfl rfl rfl ?_
            refine yr_get 64 C dX8_pair_61 fl_X8_25 (rx0 hR) rfl rfl ?_
            rename yH => hb
            refine yr_new 67 C dX8_pair_64 nw_161 (Nat.le_of_ble_eq_true rfl) (Nat.le_of_ble_eq_true rfl) rfl (fun a ha0 => ?_)
            have hs1 := sub_up (e := some (.inr (6, [.null, .null, .int 0, .int 0]))) ha0
            have ha1 := va_up_self' hb a (some (.inr (6, [.null, .null, .int 0, .int 0])))
            have hRb := hR
            replace hR := RX_sub hR hs1
            generalize va_up hb a (some (.inr (6, [.null, .null, .int 0, .int 0]))) = h1 at hR hs1 ha1 ⊢
            refine yr_dup 68 C dX8_pair_67 rfl rfl ?_
            refine yr_aload 70 C dX8_pair_68 rfl rfl rfl ?_
            refine yr_aload 72 C dX8_pair_70 rfl rfl rfl ?_
            refine yr_iload_n 73 C dX8_pair_72 rfl rfl ?_
            refine yr_I3u 76 C (xi_pair a (B 8 j) (B 8 k) x _ ha1) dX8_pair_73 mt_X5_init rfl mi_X5_init ml_X8_163 (Nat.le_of_ble_eq_true rfl) (Nat.le_of_ble_eq_true rfl) (Nat.le_of_ble_eq_true rfl) (Nat.le_of_ble_eq_true rfl) (Nat.le_of_ble_eq_true rfl) rfl (fun h hIW => ?_)
            have hs2 := IW_sub hIW hs1 ha0
            replace hR := RX_sub hRb hs2
            have eS : ∀ r, r ∉ ([29, 30, 31, 32, 33] : List Nat) → mset (mset (mset (mset (mset S 30 (N 4) (nI j)) 31 (N 4) (nI k)) 32 (N 4) x) 33 (N 4) 0) 29 0 (nI (N 4) + 1) r = S r := fun r hr => by
              simp at hr
              simp [mset_ne, hr]
            have eA : ∀ q, mset (mset (mset (mset (mset S 30 (N 4) (nI j)) 31 (N 4) (nI k)) 32 (N 4) x) 33 (N 4) 0) 29 0 (nI (N 4) + 1) 30 q = (if q = N 4 then nI j else S 30 q) ∧ mset (mset (mset (mset (mset S 30 (N 4) (nI j)) 31 (N 4) (nI k)) 32 (N 4) x) 33 (N 4) 0) 29 0 (nI (N 4) + 1) 31 q = (if q = N 4 then nI k else S 31 q) ∧ mset (mset (mset (mset (mset S 30 (N 4) (nI j)) 31 (N 4) (nI k)) 32 (N 4) x) 33 (N 4) 0) 29 0 (nI (N 4) + 1) 32 q = (if q = N 4 then x else S 32 q) ∧ mset (mset (mset (mset (mset S 30 (N 4) (nI j)) 31 (N 4) (nI k)) 32 (N 4) x) 33 (N 4) 0) 29 0 (nI (N 4) + 1) 33 q = (if q = N 4 then 0 else S 33 q) := fun q => by
              refine ⟨?_, ?_, ?_, ?_⟩
              · rw [mset_ne _ _ (by decide), mset_ne _ _ (by decide), mset_ne _ _ (by decide), mset_ne _ _ (by decide), mset_at]
              · rw [mset_ne _ _ (by decide), mset_ne _ _ (by decide), mset_ne _ _ (by decide), mset_at, mset_ne _ _ (by decide)]
              · rw [mset_ne _ _ (by decide), mset_ne _ _ (by decide), mset_at, mset_ne _ _ (by decide), mset_ne _ _ (by decide)]
              · rw [mset_ne _ _ (by decide), mset_at, mset_ne _ _ (by decide), mset_ne _ _ (by decide), mset_ne _ _ (by decide)]
            obtain ⟨S1, hS1⟩ : ∃ S1, S1 = mset (mset (mset (mset (mset S 30 (N 4) (nI j)) 31 (N 4) (nI k)) 32 (N 4) x) 33 (N 4) 0) 29 0 (nI (N 4) + 1) := ⟨_, rfl⟩
            rw [← hS1] at eS eA
            have hF : RF S1 N := by
              unfold RF
              rw [eS 34 (by decide), eS 39 (by decide), eS 4 (by decide), eS 18 (by decide), eS 24 (by decide)]
              obtain ⟨r1, r2, r3, r4, r5, r6⟩ := RF_of hI
              exact ⟨r1, r2, r3, r4, fun q hq => by rw [(eA q).1, (eA q).2.1, if_neg (by omega), if_neg (by omega)]; exact r5 q hq, r6⟩
            have hRf := RX_far (S' := S1) hRb (xV_imp (by rw [eS 20 (by decide)]; exact fun i q => q)) (fun k i v => far_C (t0 := t0) (h := hb) (L := [29, 30, 31, 32, 33]) (k0 := 12) (xV_imp (by rw [eS 20 (by decide)]; exact fun i q => q) k i v) eS (by decide) (fun w => by
              subst w
              have hi : i < N 4 := v
              have ne : i ≠ N 4 := by omega
              obtain ⟨b1, b2, b3, b4⟩ := eA i
              simp only [xC, b1, b2, b3, b4, if_neg ne]))
            obtain ⟨Y, hY12⟩ : ∃ Y : Nat → Nat, Y 12 = a := ⟨fun _ => a, rfl⟩
            have kc : ∀ {P : Nat → Prop}, P 12 → ∀ k, xnew 4 k = true → P k := fun {P} p1 k hk => by
              simp only [xnew, beq_iff_eq] at hk
              rw [hk]
              exact p1
            rw [← hY12]
            refine yr_V1v 79 C (jl_add (li := 4) (Y := Y) (by decide) hRf hF hs2 (kc (P := fun k => hb (Y k) = none) (by rw [hY12]; exact ha0)) (fun k k' hk hk' _ => (kc (P := fun k => k = 12) rfl k hk).trans (kc (P := fun k => k = 12) rfl k' hk').symm) (fun ea c2 => kc (fun _ => by
      rw [hY12, hIW.2.1]
      obtain ⟨b1, b2, b3, b4⟩ := eA (N 4)
      simp only [xC, b1, b2, b3, b4, if_true, ix_nI (show j < 2 ^ 31 by omega), ix_nI (show k < 2 ^ 31 by omega), pushB_old (k := 8) (show xnew 4 8 = false from rfl) (by decide)])) (kc (P := fun k => h (Y k) ≠ none) (by rw [hY12, hIW.2.1]; exact fun z => by cases z)) (vs := _) (by show _ = some (Sum.inr (6, _)); rw [show xkd 4 = 12 from rfl, hY12]; exact hIW.2.1)) dX8_pair_76 mt_Jx4a65c_add_9ea2d mv_Jx4a65c_add_9ea2d ml_X8_84 (rx1 hR (show 4 < 5 by decide)) rfl (Nat.le_of_ble_eq_true rfl) (Nat.le_of_ble_eq_true rfl) (Nat.le_of_ble_eq_true rfl) (Nat.le_of_ble_eq_true rfl) (Nat.le_of_ble_eq_true rfl) rfl (fun h hR => ?_)
            obtain ⟨ea, c2, hR⟩ := hR
            refine yr_pop 80 C dX8_pair_79 rfl rfl ?_
            rw [show B 0 0 = pushB B 4 (N 4) ea Y 0 0 from (pushB_old rfl (by decide)).symm]
            refine yr_aload_n 81 C dX8_pair_80 rfl rfl rfl ?_
            refine yr_get 84 C dX8_pair_81 fl_X8_25 (rx0 hR) rfl rfl ?_
            refine yr_V0v 87 C (jl_size (show 4 < 5 by decide) _ hR) dX8_pair_84 mt_Jx4a65c_size_8abf5 mv_Jx4a65c_size_8abf5 ml_X8_75 (rx1 hR (show 4 < 5 by decide)) rfl (Nat.le_of_ble_eq_true rfl) (Nat.le_of_ble_eq_true rfl) (Nat.le_of_ble_eq_true rfl) (Nat.le_of_ble_eq_true rfl) (Nat.le_of_ble_eq_true rfl) rfl (fun h e => ?_)
            subst e
            rw [va_up_self']
            refine yr_iconst 88 C (1) dX8_pair_87 rfl rfl ?_
            refine yr_isub 89 C dX8_pair_88 rfl ?_
            refine yr_iret C dX8_pair_89 hr (Nat.le_of_ble_eq_true rfl) (Nat.le_of_ble_eq_true rfl) ?_
            have jk : ¬ nI j = nI k := fun z => c28 (by rw [nI_inj (by omega) (by omega) z])
            have a3 : ¬ nI (N 4) = 6 := fun z => by
              have := nI_inj (b := 6) (by omega) (by decide) z
              omega
            have es : sp_pair S (nI j) (nI k) x = (nI (N 4) + 1 - 1, S1) := by
              rw [hS1]
              have i3 : ix (nI (N 4)) = N 4 := ix_nI (by omega)
              simp [sp_pair, e1, f1, jk, c40, h4.1, a3, i3]
            rw [es]
            have zI := mI_pair (u := x) hj hk c61 hI
            rw [← hS1] at zI
            rw [← eS 5 (by decide)] at hR
            exact ⟨by rw [nI_1], XI_of hR zI rfl (Nat.le_refl t)⟩
          · refine yr_bipush 59 C (-2) dX8_pair_57 rfl rfl ?_
            refine yr_iret C dX8_pair_59 hr (Nat.le_of_ble_eq_true rfl) (Nat.le_of_ble_eq_true rfl) ?_
            have jk : ¬ nI j = nI k := fun z => c28 (by rw [nI_inj (by omega) (by omega) z])
            have a2 : N 4 = 6 := by
              rcases Nat.lt_or_ge (N 4) 6 with z | z
              · exact absurd (nI_lt (b := 6) z (by decide)) c54
              · omega
            have a3 : S 29 0 = 6 := by rw [h4.1, a2]; rfl
            have es : sp_pair S (nI j) (nI k) x = (-2, S) := by simp [sp_pair, e1, f1, jk, c40, a3]
            rw [es]
            exact ⟨rfl, mc, cap, B, N, t, rfl, hR, hI, Nat.le_refl t⟩
        · refine yr_iconst 44 C (-1) dX8_pair_43 rfl rfl ?_
          refine yr_iret C dX8_pair_44 hr (Nat.le_of_ble_eq_true rfl) (Nat.le_of_ble_eq_true rfl) ?_
          have jk : ¬ nI j = nI k := fun z => c28 (by rw [nI_inj (by omega) (by omega) z])
          have es : sp_pair S (nI j) (nI k) x = (-1, S) := by simp [sp_pair, c40]
          rw [es]
          exact ⟨rfl, mc, cap, B, N, t, rfl, hR, hI, Nat.le_refl t⟩
      · refine yr_iconst 32 C (-1) dX8_pair_31 rfl rfl ?_
        refine yr_iret C dX8_pair_32 hr (Nat.le_of_ble_eq_true rfl) (Nat.le_of_ble_eq_true rfl) ?_
        have jk : j = k := (hR.2.1 8 j 8 k hj hk (Option.some.inj c28)).2
        subst jk
        have es : sp_pair S (nI j) (nI j) x = (-1, S) := by simp [sp_pair]
        rw [es]
        exact ⟨rfl, mc, cap, B, N, t, rfl, hR, hI, Nat.le_refl t⟩
set_option maxHeartbeats 4000000 in
set_option maxRecDepth 100000 in
theorem xc_detector (q : Int32) (hI : mI S (N 0) (N 1) (N 2) (N 3) (N 4) t) (ht : t < 2 ^ 20) (hlf : lf = S 5) (h : yH) (hR : RX dA t0 (S) lf mc cap B N h) : yM (yZ t0 mi D dA) D yX8_detector cX8_detector 4 (some .int) 7 4 440 [.ref (B 0 0), .int q] h (fun r h' => r = some (.int (sp_detector S q).1) ∧ XI dA t0 (sp_detector S q).2 (B 0 0) t h') := by
  refine yM_of (yZ_ok t0 mi D dA) (by decide) rfl (Nat.le_of_ble_eq_true rfl) ?_
  intro p l e s m args below meth c A C hr hin
  show yW p l e (yR 7 4 440) s m args below meth c 4 D A 0 0 _ 0 [some (.ref (B 0 0)), some (.int q), none, none] [] h
  subst hlf
  have h0 : S 1 0 = nI (N 0) ∧ N 0 ≤ 8 := hI 0
  have h1 : S 17 0 = nI (N 1) ∧ N 1 ≤ 6 := hI 1
  have h2 : S 19 0 = nI (N 2) ∧ N 2 ≤ 12 := hI 2
  have h5 : S 0 0 = nI t := hI 5
  have hB := mB_of_mI hI ht
  refine yr_aload_n 1 C dX8_detector_0 rfl rfl rfl ?_
  refine yr_iload_n 2 C dX8_detector_1 rfl rfl ?_
  refine yr_V1v 5 C (xc_phaseAt _ h0 _ hR) dX8_detector_2 mt_X8_phaseAt mv_X8_phaseAt ml_X8_91 (rx0 hR) rfl (Nat.le_of_ble_eq_true rfl) (Nat.le_of_ble_eq_true rfl) (Nat.le_of_ble_eq_true rfl) (Nat.le_of_ble_eq_true rfl) (Nat.le_of_ble_eq_true rfl) rfl (fun h hR => ?_)
  rcases ph_cases (B := B) hI q with ⟨e1, e2⟩ | ⟨j, hj, rfl, e1, e2⟩
  · rw [e2]
    refine yr_astore2 6 C dX8_detector_5 rfl (by decide) rfl ?_
    refine yr_aload_n 7 C dX8_detector_6 rfl rfl rfl ?_
    refine yr_ifnonnull_n 10 C dX8_detector_7 rfl ?_
    refine yr_iconst 11 C (-1) dX8_detector_10 rfl rfl ?_
    refine yr_iret C dX8_detector_11 hr (Nat.le_of_ble_eq_true rfl) (Nat.le_of_ble_eq_true rfl) ?_
    have es : sp_detector S q = (-1, S) := by simp [sp_detector, e1]
    rw [es]
    exact ⟨rfl, mc, cap, B, N, t, rfl, hR, hI, Nat.le_refl t⟩
  · rw [e2]
    have ej : ix (nI j) = j := ix_nI (by omega)
    refine yr_astore2 6 C dX8_detector_5 rfl (by decide) rfl ?_
    refine yr_aload_n 7 C dX8_detector_6 rfl rfl rfl ?_
    refine yr_ifnonnull_r 12 C dX8_detector_7 (by decide) ?_
    refine yr_aload_n 13 C dX8_detector_12 rfl rfl rfl ?_
    refine yr_get 16 C dX8_detector_13 fl_X8_19 (rx0 hR) rfl rfl ?_
    refine yr_V0v 19 C (jl_size (show 2 < 5 by decide) _ hR) dX8_detector_16 mt_Jx4a65c_size_8abf5 mv_Jx4a65c_size_8abf5 ml_X8_75 (rx1 hR (show 2 < 5 by decide)) rfl (Nat.le_of_ble_eq_true rfl) (Nat.le_of_ble_eq_true rfl) (Nat.le_of_ble_eq_true rfl) (Nat.le_of_ble_eq_true rfl) (Nat.le_of_ble_eq_true rfl) rfl (fun h e => ?_)
    subst e
    refine yr_bipush 21 C (12) dX8_detector_19 rfl rfl ?_
    refine yr_icmp_lt 27 24 C  dX8_detector_21 (by decide) rfl (fun c21 => ?_) (fun c21 => ?_)
    · have c28 : N 2 < 12 := by
        rcases Nat.lt_or_ge (N 2) 12 with z | z
        · exact z
        · exact absurd c21 (nI_nlt (b := 12) z (by omega))
      rename yH => hb
      refine yr_new 30 C dX8_detector_27 nw_128 (Nat.le_of_ble_eq_true rfl) (Nat.le_of_ble_eq_true rfl) rfl (fun a ha0 => ?_)
      have hs1 := sub_up (e := some (.inr (2, [.int 0, .null, .null, .int 0]))) ha0
      have ha1 := va_up_self' hb a (some (.inr (2, [.int 0, .null, .null, .int 0])))
      have hRb := hR
      replace hR := RX_sub hR hs1
      generalize va_up hb a (some (.inr (2, [.int 0, .null, .null, .int 0]))) = h1 at hR hs1 ha1 ⊢
      refine yr_dup 31 C dX8_detector_30 rfl rfl ?_
      refine yr_aload_n 32 C dX8_detector_31 rfl rfl rfl ?_
      refine yr_get 35 C dX8_detector_32 fl_X8_19 (rx0 hR) rfl rfl ?_
      refine yr_V0v 38 C (jl_size (show 2 < 5 by decide) _ hR) dX8_detector_35 mt_Jx4a65c_size_8abf5 mv_Jx4a65c_size_8abf5 ml_X8_75 (rx1 hR (show 2 < 5 by decide)) rfl (Nat.le_of_ble_eq_true rfl) (Nat.le_of_ble_eq_true rfl) (Nat.le_of_ble_eq_true rfl) (Nat.le_of_ble_eq_true rfl) (Nat.le_of_ble_eq_true rfl) rfl (fun h e => ?_)
      subst e
      refine yr_I1u 41 C (xi_det a (nI (N 2)) _ ha1) dX8_detector_38 mt_X1_init rfl mi_X1_init ml_X8_130 (Nat.le_of_ble_eq_true rfl) (Nat.le_of_ble_eq_true rfl) (Nat.le_of_ble_eq_true rfl) (Nat.le_of_ble_eq_true rfl) (Nat.le_of_ble_eq_true rfl) rfl (fun h hIW => ?_)
      obtain ⟨q9, q10, hIW⟩ := hIW
      have hs2 := IW_sub hIW hs1 ha0
      replace hR := RX_sub hRb hs2
      have eS : ∀ r, r ∉ ([19, 20] : List Nat) → mset (mset S 20 (N 2) 0) 19 0 (nI (N 2) + 1) r = S r := fun r hr => by
        simp at hr
        simp [mset_ne, hr]
      have eA : ∀ q, mset (mset S 20 (N 2) 0) 19 0 (nI (N 2) + 1) 20 q = (if q = N 2 then 0 else S 20 q) := fun q => by rw [mset_ne _ _ (by decide), mset_at]
      obtain ⟨S1, hS1⟩ : ∃ S1, S1 = mset (mset S 20 (N 2) 0) 19 0 (nI (N 2) + 1) := ⟨_, rfl⟩
      rw [← hS1] at eS eA
      have hF : RF S1 N := by
        unfold RF
        rw [eS 34 (by decide), eS 39 (by decide), eS 4 (by decide), eS 18 (by decide), eS 24 (by decide), eS 30 (by decide), eS 31 (by decide)]
        exact RF_of hI
      have hVd : ∀ k i, xV S1 cap N k i → xV S cap N k i := xV_imp2 (fun i hi q => by rw [eA, if_neg (by omega)] at q; exact q)
      have hRf := RX_far (S' := S1) hRb hVd (fun k i v => by
        have v0 := hVd k i v
        by_cases c8 : k = 8
        · subst c8
          have ne : i ≠ N 2 := by have : i < N 2 := v; omega
          simp only [xC, eA, if_neg ne]
        · by_cases c9 : k = 9
          · subst c9
            have ne : i ≠ N 2 := by have : i < N 2 := v.1; omega
            simp only [xC, eA, if_neg ne, eS 21 (by decide)]
          · by_cases c10 : k = 10
            · subst c10
              have ne : i ≠ N 2 := by have : i < N 2 := v.1; omega
              simp only [xC, eA, if_neg ne, eS 22 (by decide)]
            · refine xC_rows (xV_lt v0) (fun r hr => eS r ?_)
              have : ∀ k, k < 17 → (k ≠ 8 ∧ k ≠ 9 ∧ k ≠ 10) → ∀ r, r ∈ xRows k → r ∉ [19, 20] := by decide
              exact this k (xV_lt v0) ⟨c8, c9, c10⟩ r (by simpa using hr))
      refine yr_astore3 42 C dX8_detector_41 rfl (by decide) rfl ?_
      refine yr_aload_n 43 C dX8_detector_42 rfl rfl rfl ?_
      refine yr_get 46 C dX8_detector_43 fl_X8_19 (rx0 hR) rfl rfl ?_
      refine yr_aload_n 47 C dX8_detector_46 rfl rfl rfl ?_
      obtain ⟨Y, hY8, hY9, hY10⟩ : ∃ Y : Nat → Nat, Y 8 = a ∧ Y 9 = q9 ∧ Y 10 = q10 := ⟨fun k => if k = 8 then a else if k = 9 then q9 else q10, rfl, rfl, rfl⟩
      obtain ⟨⟨x5, y5, w5⟩, ⟨x4, y4, w4⟩, x54⟩ := IW_p2 hIW
      have kc : ∀ {P : Nat → Prop}, P 8 → P 9 → P 10 → ∀ k, xnew 2 k = true → P k := fun {P} p3 p4 p5 k hk => by
        simp only [xnew, Bool.or_eq_true, beq_iff_eq] at hk
        rcases hk with (rfl | rfl) | rfl
        · exact p3
        · exact p4
        · exact p5
      have hY := kc (P := fun k => hb (Y k) = none) (by rw [hY8]; exact ha0) (by rw [hY9]; exact sub_none hs1 y4) (by rw [hY10]; exact sub_none hs1 y5)
      rw [← hY8]
      refine yr_V1v 50 C (jl_add (li := 2) (Y := Y) (by decide) hRf hF hs2 hY (by
    intro k k' hk hk' e
    revert k'
    refine kc (P := fun k => ∀ k', xnew 2 k' = true → Y k = Y k' → k = k') ?_ ?_ ?_ k hk
    · refine kc ?_ ?_ ?_
      · exact fun _ => rfl
      · rw [hY8, hY9]; exact fun z => absurd z.symm x4
      · rw [hY8, hY10]; exact fun z => absurd z.symm x5
    · refine kc ?_ ?_ ?_
      · rw [hY8, hY9]; exact fun z => absurd z x4
      · exact fun _ => rfl
      · rw [hY9, hY10]; exact fun z => absurd z.symm x54
    · refine kc ?_ ?_ ?_
      · rw [hY8, hY10]; exact fun z => absurd z x5
      · rw [hY9, hY10]; exact fun z => absurd z x54
      · exact fun _ => rfl) (fun ea c2 => kc (fun _ => by
      rw [hY8, hIW.2.1]
      simp only [xC, eA, if_true, pushB_new (k := 9) (show xnew 2 9 = true from rfl) (by decide), pushB_new (k := 10) (show xnew 2 10 = true from rfl) (by decide), hY9, hY10]
      rfl) (fun _ => by
      rw [hY9, w4]
      simp only [xC, eA, if_true]
      congr 5) (fun _ => by
      rw [hY10, w5]
      simp only [xC, eA, if_true]
      congr 5)) (kc (P := fun k => h (Y k) ≠ none) (by rw [hY8, hIW.2.1]; exact fun z => by cases z) (by rw [hY9, w4]; exact fun z => by cases z) (by rw [hY10, w5]; exact fun z => by cases z)) (vs := _) (by show _ = some (Sum.inr (2, _)); rw [show xkd 2 = 8 from rfl, hY8]; exact hIW.2.1)) dX8_detector_47 mt_Jx4a65c_add_9ea2d mv_Jx4a65c_add_9ea2d ml_X8_84 (rx1 hR (show 2 < 5 by decide)) rfl (Nat.le_of_ble_eq_true rfl) (Nat.le_of_ble_eq_true rfl) (Nat.le_of_ble_eq_true rfl) (Nat.le_of_ble_eq_true rfl) (Nat.le_of_ble_eq_true rfl) rfl (fun h hR => ?_)
      obtain ⟨ea, c2, hR⟩ := hR
      refine yr_pop 51 C dX8_detector_50 rfl rfl ?_
      rw [show B 3 j = pushB B 2 (N 2) ea Y 3 j from (pushB_old rfl (by decide)).symm]
      refine yr_aload_n 52 C dX8_detector_51 rfl rfl rfl ?_
      refine yr_aload_n 53 C dX8_detector_52 rfl rfl rfl ?_
      refine xx_put 56 C dX8_detector_53 fp_X8_131 (rx3 hR hj) (Nat.le_of_ble_eq_true rfl) rfl rfl (ru3_4 hR hj (nI (N 2)) (.ref (Y 8)) (by rw [xr_nI (by omega), pushB_new (k := 8) rfl (by decide)]; rfl)) rfl (fun h hR => ?_)
      have s20 : mset S1 4 j (nI (N 2)) 20 (N 2) = 0 := by rw [mset_ne _ _ (by decide), eA, if_pos rfl]
      have hcell := rx8 hR (d := N 2) (show N 2 < va_up N 2 (N 2 + 1) 2 by rw [va_up_self']; omega) (by rw [s20]; decide)
      rw [pushB_new (k := 8) rfl (by decide)] at hcell
      refine yr_aload_n 57 C dX8_detector_56 rfl rfl rfl ?_
      refine yr_get 60 C dX8_detector_57 fl_X8_135 hcell rfl rfl ?_
      refine yr_iret C dX8_detector_60 hr (Nat.le_of_ble_eq_true rfl) (Nat.le_of_ble_eq_true rfl) ?_
      have a3 : ¬ nI (N 2) = 12 := fun z => by
        have := nI_inj (b := 12) (by omega) (by decide) z
        omega
      have eT : mset S1 4 j (nI (N 2)) = mset (mset (mset S 4 j (nI (N 2))) 20 (N 2) 0) 19 0 (nI (N 2) + 1) := by
        rw [hS1, mset_comm _ (show (19 : Nat) ≠ 4 by decide), mset_comm S (show (20 : Nat) ≠ 4 by decide)]
      have es : sp_detector S (nI j) = (nI (N 2) + 1 - 1, mset S1 4 j (nI (N 2))) := by
        rw [eT]
        have i3 : ix (nI (N 2)) = N 2 := ix_nI (by omega)
        simp [sp_detector, e1, h2.1, a3, i3, ej]
      rw [es]
      have zI := mI_detector hj c28 hI
      rw [← eT] at zI
      have e5 : mset S1 4 j (nI (N 2)) 5 = S 5 := by rw [mset_ne _ _ (by decide), eS 5 (by decide)]
      rw [← e5] at hR
      exact ⟨by rw [nI_1, nI_pred], XI_of hR zI rfl (Nat.le_refl t)⟩
    · refine yr_bipush 26 C (-2) dX8_detector_24 rfl rfl ?_
      refine yr_iret C dX8_detector_26 hr (Nat.le_of_ble_eq_true rfl) (Nat.le_of_ble_eq_true rfl) ?_
      have a2 : N 2 = 12 := by
        rcases Nat.lt_or_ge (N 2) 12 with z | z
        · exact absurd (nI_lt (b := 12) z (by decide)) c21
        · omega
      have a3 : S 19 0 = 12 := by rw [h2.1, a2]; rfl
      have es : sp_detector S (nI j) = (-2, S) := by simp [sp_detector, e1, a3]
      rw [es]
      exact ⟨rfl, mc, cap, B, N, t, rfl, hR, hI, Nat.le_refl t⟩
end X25
