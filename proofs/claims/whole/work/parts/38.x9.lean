theorem jfm_nI {a d : Nat} (ha : a < 2 ^ 31) (h0 : 0 < d) (hd : d < 2 ^ 31) : jfm (nI a) (nI d) = nI (a % d) := by
  unfold jfm
  have hx : 0 ≤ nI a ^^^ nI d := by
    rw [xx_xor]
    exact nI_pos' (Nat.xor_lt_two_pow ha hd)
  rw [if_pos hx, pk_rem ha h0 hd]
theorem xr_m5 (f : Nat → Nat) : xr f (-5) = none := by simp [xr]
theorem m_askS_cO {S : yS} {np b : Nat} (ha : ∀ p, p < np → cO (S 10 p) b) {q x : Int32} (hn : np ≤ 8) (hq : cO q np) (hx : cO x b) : cO (m_askS S q x) b := by
  unfold m_askS
  rcases hq with e | ⟨z, hz, e⟩
  · rw [e, if_pos (by decide)]
    exact hx
  · rw [e, if_neg (nI_pos (by omega)), ix_nI (by omega)]
    have h1 := ha z hz
    repeat' split
    all_goals first | exact hx | exact h1
theorem m_askL_cO {S : yS} {np b s : Nat} (ha : ∀ p, p < np → cO (S 10 p) b) (hn : np ≤ 8) (hp : ∀ k, k < 4 → cO (S 18 (4 * s + k)) np) : ∀ (j i : Nat) (x : Int32), i + j = 4 → cO x b → cO (m_askL S s j i x) b
  | 0, _, _, _, hx => hx
  | j + 1, i, x, hij, hx => m_askL_cO ha hn hp j (i + 1) _ (by omega) (m_askS_cO ha hn (hp i (by omega)) hx)
theorem m_asked_cO {S : yS} {np ns nd nr t b s : Nat} (hB : mB S np ns nd nr t) (ha : ∀ p, p < np → cO (S 10 p) b) (hs : s < ns) : cO (m_asked S s) b :=
  m_askL_cO ha (show S 1 0 = nI np ∧ np ≤ 8 from hB 0).2 (fun k hk => (show ∀ s, s < ns → ∀ k, k < 4 → cO (S 18 (4 * s + k)) np from hB 7) s hs k hk) 4 0 (-5) rfl (Or.inl rfl)
section X9
variable {D : va_G} {dA : Nat → ClassId} {t0 mi : Nat} {S : yS} {lf mc : Nat → Int32} {cap : Nat → Nat} {B : Nat → Nat → Nat} {N : Nat → Nat}
variable {nd nr t : Nat}
set_option maxHeartbeats 4000000 in
set_option maxRecDepth 100000 in
theorem xc_nextStage  (hB : mB S (N 0) (N 1) nd nr t) (ha : ∀ p, p < N 0 → cO (S 10 p) (t + 1)) (hh : cO (S 39 0) (N 1)) (hgr : cO (S 34 0) (N 1)) (hl : S 38 0 = -1 ∨ ∃ s, s < N 1 ∧ S 38 0 = nI s) (hga : ∀ g, g < N 1 → S 34 0 = nI g → m_asked S g < 0) (h : yH) (hR : RX dA t0 (S) lf mc cap B N h) : yM (yZ t0 mi D dA) D yX8_nextStage cX8_nextStage 7 (some (.object "CrossingKeeper$Stage")) 3 0 0 [.ref (B 0 0)] h (fun r h' => r = some (va_rf (xr (B 6) (m_next S (N 1)))) ∧ RX dA t0 (S) lf mc cap B N h') := by
  refine yM_of (yZ_ok t0 mi D dA) (by decide) rfl (Nat.le_of_ble_eq_true rfl) ?_
  intro p l e s m args below meth c A C hr hin
  show yW p l e (yR 3 0 0) s m args below meth c 7 D A 0 0 _ 0 [some (.ref (B 0 0)), none, none, none, none, none, none] [] h
  have n0 : N 0 ≤ 8 := (show S 1 0 = nI (N 0) ∧ N 0 ≤ 8 from hB 0).2
  have n1 : N 1 ≤ 6 := (show S 17 0 = nI (N 1) ∧ N 1 ≤ 6 from hB 1).2
  have k3 : S 0 0 = nI t ∧ t < 2 ^ 20 ∧ nd ≤ 12 := hB 3
  obtain ⟨b, hb, eb, el⟩ := m_lg_eq n1 hl
  have en5 : va_rf (xr (B 6) (-5)) = Value.null := by rw [xr_m5]; rfl
  refine yr_aload_n 1 C dX8_nextStage_0 rfl rfl rfl ?_
  refine yr_get 4 C dX8_nextStage_1 fl_X8_69 (rx0 hR) rfl rfl ?_
  rcases xr_cases (f := B 6) (by omega) hh with ⟨u1, u2⟩ | ⟨z, hz, u1, u2⟩
  · rw [u2]
    refine yr_ifnull_n 12 C dX8_nextStage_4 (by decide) ?_
    refine yr_aload_n 13 C dX8_nextStage_12 rfl rfl rfl ?_
    refine yr_get 16 C dX8_nextStage_13 fl_X8_16 (rx0 hR) rfl rfl ?_
    refine yr_V0v 19 C (jl_size (show 1 < 5 by decide) _ hR) dX8_nextStage_16 mt_Jx4a65c_size_8abf5 mv_Jx4a65c_size_8abf5 ml_X8_75 (rx1 hR (show 1 < 5 by decide)) rfl (Nat.le_of_ble_eq_true rfl) (Nat.le_of_ble_eq_true rfl) (Nat.le_of_ble_eq_true rfl) (Nat.le_of_ble_eq_true rfl) (Nat.le_of_ble_eq_true rfl) rfl (fun h e => ?_)
    subst e
    refine yr_istore1 20 C dX8_nextStage_19 (by decide) rfl ?_
    refine yr_null 21 C dX8_nextStage_20 rfl ?_
    refine yr_astore2 22 C dX8_nextStage_21 rfl (by decide) rfl ?_
    refine yr_bipush 24 C (-5) dX8_nextStage_22 rfl rfl ?_
    refine yr_istore3 25 C dX8_nextStage_24 (by decide) rfl ?_
    rw [← en5]
    refine yr_iconst 26 C (1) dX8_nextStage_25 rfl rfl ?_
    refine yr_istore4 28 C dX8_nextStage_26 (by decide) rfl ?_
    have loop28 : ∀ (j i : Nat) (f g x : Int32), i + j = N 1 → cO f (N 1) → (0 ≤ f → x = g) → m_nextL S (N 1) j i f g = m_nextL S (N 1) (N 1) 0 (-5) 0 → ∀ h : yH, RX dA t0 (S) lf mc cap B N h → yW p l e (yR 3 0 0) s m args below meth c 7 D A 0 0 (yF D A (fun r h' => r = some (va_rf (xr (B 6) (m_next S (N 1)))) ∧ RX dA t0 (S) lf mc cap B N h') below args s 0 0) 28 [some (.ref (B 0 0)), some (.int (nI (N 1))), some (va_rf (xr (B 6) f)), some (.int x), some (.int (nI (i + 1))), none, none] [] h := by
      intro j
      induction j with
      | zero =>
        intro i f g x hij hf hfx he h hR
        refine yr_iload 30 C dX8_nextStage_28 rfl rfl ?_
        refine yr_iload_n 31 C dX8_nextStage_30 rfl rfl ?_
        refine yr_icmp_gt 105 34 C  dX8_nextStage_31 (by decide) rfl (fun c31 => ?_) (fun c31 => ?_)
        rotate_left
        · exact absurd (nI_lt (by omega) (by omega)) c31
        refine yr_aload_n 106 C dX8_nextStage_105 rfl (yd_isref_rf _) rfl ?_
        refine yr_aret C dX8_nextStage_106 hr (Or.inl ⟨_, rfl⟩) (yd_isref_rf _) (Nat.le_of_ble_eq_true rfl) (Nat.le_of_ble_eq_true rfl) ?_
        refine ⟨?_, hR⟩
        have a1 : S 39 0 < 0 := by rw [u1]; decide
        have he2 : f = m_nextL S (N 1) (N 1) 0 (-5) 0 := he
        simp [m_next, a1, ← he2]
      | succ j ih =>
        intro i f g x hij hf hfx he h hR
        refine yr_iload 30 C dX8_nextStage_28 rfl rfl ?_
        refine yr_iload_n 31 C dX8_nextStage_30 rfl rfl ?_
        refine yr_icmp_gt 105 34 C  dX8_nextStage_31 (by decide) rfl (fun c31 => ?_) (fun c31 => ?_)
        · exact absurd c31 (nI_nlt (by omega) (by omega))
        refine yr_aload_n 35 C dX8_nextStage_34 rfl rfl rfl ?_
        refine yr_get 38 C dX8_nextStage_35 fl_X8_16 (rx0 hR) rfl rfl ?_
        refine yr_aload_n 39 C dX8_nextStage_38 rfl rfl rfl ?_
        refine yr_get 42 C dX8_nextStage_39 fl_X8_72 (rx0 hR) rfl rfl ?_
        refine yr_iload 44 C dX8_nextStage_42 rfl rfl ?_
        refine yr_iadd 45 C dX8_nextStage_44 rfl ?_
        rw [el]
        refine yr_iload_n 46 C dX8_nextStage_45 rfl rfl ?_
        refine yr_S2v 49 C (jc_fm _ _ (nI_ne0 (by omega) (by omega)) _) dX8_nextStage_46 mt_J9_floorMod_7cf53 ms_J9_floorMod_7cf53 ml_X8_370 (Nat.le_of_ble_eq_true rfl) (Nat.le_of_ble_eq_true rfl) (Nat.le_of_ble_eq_true rfl) (Nat.le_of_ble_eq_true rfl) (Nat.le_of_ble_eq_true rfl) rfl (fun h e => ?_)
        subst e
        rw [jfm_nI (show b + i < 2 ^ 31 by omega) (show 0 < N 1 by omega) (by omega)]
        have hmod : (b + i) % N 1 < N 1 := Nat.mod_lt _ (by omega)
        refine yr_V1v 52 C (jl_get (show 1 < 5 by decide) hmod _ hR) dX8_nextStage_49 mt_Jx4a65c_get_915e3 mv_Jx4a65c_get_915e3 ml_X8_99 (rx1 hR (show 1 < 5 by decide)) rfl (Nat.le_of_ble_eq_true rfl) (Nat.le_of_ble_eq_true rfl) (Nat.le_of_ble_eq_true rfl) (Nat.le_of_ble_eq_true rfl) (Nat.le_of_ble_eq_true rfl) rfl (fun h e => ?_)
        subst e
        rw [show xkd 1 = 6 from rfl]
        refine yr_cast 55 C dX8_nextStage_52 (rx6 hR hmod) rfl cl_X8_103 rfl ?_
        refine yr_astore5 57 C dX8_nextStage_55 rfl (by decide) rfl ?_
        refine yr_aload 59 C dX8_nextStage_57 rfl rfl rfl ?_
        refine yr_V0v 62 C (xc_firstAsked _ hmod hB ha _ hR) dX8_nextStage_59 mt_X7_firstAsked mv_X7_firstAsked ml_X8_373 (rx6 hR hmod) rfl (Nat.le_of_ble_eq_true rfl) (Nat.le_of_ble_eq_true rfl) (Nat.le_of_ble_eq_true rfl) (Nat.le_of_ble_eq_true rfl) (Nat.le_of_ble_eq_true rfl) rfl (fun h hR => ?_)
        refine yr_istore6 64 C dX8_nextStage_62 (by decide) rfl ?_
        refine yr_aload 66 C dX8_nextStage_64 rfl rfl rfl ?_
        refine yr_aload_n 67 C dX8_nextStage_66 rfl rfl rfl ?_
        refine yr_get 70 C dX8_nextStage_67 fl_X8_56 (rx0 hR) rfl rfl ?_
        refine yr_acmp_eq 99 73 C (x := some (B 6 ((b + i) % N 1))) (y := xr (B 6) (S 34 0)) dX8_nextStage_70 (by decide) rfl (fun c70 => ?_) (fun c70 => ?_)
        · refine yr_iinc4 102 C (1) dX8_nextStage_99 rfl (by decide) rfl ?_
          rw [nI_1]
          refine yr_goto 28 C dX8_nextStage_102 (by decide) ?_
          have ac := m_asked_cO hB ha hmod
          have i1 := cO_iff (by omega) ac
          refine yr_forget5 (yr_forget6 ?_)
          have ag : m_asked S ((b + i) % N 1) < 0 := by
            rcases xr_cases (f := B 6) (by omega) hgr with ⟨q1, q2⟩ | ⟨y, hy, q1, q2⟩
            · rw [q2] at c70; cases c70
            · rw [q2] at c70
              have e9 := (hR.2.1 6 _ 6 y hmod hy (Option.some.inj c70)).2
              rw [e9]
              exact hga y hy q1
          exact ih (i + 1) f g x (by omega) hf hfx (by rw [← he]; simp [m_nextL, eb, ag]) h hR
        · refine yr_iload 75 C dX8_nextStage_73 rfl rfl ?_
          refine yr_bipush 77 C (-5) dX8_nextStage_75 rfl rfl ?_
          refine yr_icmp_ne 83 80 C  dX8_nextStage_77 (by decide) rfl (fun c77 => ?_) (fun c77 => ?_)
          · refine yr_aload_n 84 C dX8_nextStage_83 rfl (yd_isref_rf _) rfl ?_
            rcases xr_cases (f := B 6) (by omega) hf with ⟨g1, g2⟩ | ⟨z, hz, g1, g2⟩
            · rw [g2]
              refine yr_ifnull_n 93 C dX8_nextStage_84 (by decide) ?_
              refine yr_aload 95 C dX8_nextStage_93 rfl rfl rfl ?_
              refine yr_astore2 96 C dX8_nextStage_95 rfl (by decide) rfl ?_
              refine yr_iload 98 C dX8_nextStage_96 rfl rfl ?_
              refine yr_istore3 99 C dX8_nextStage_98 (by decide) rfl ?_
              refine yr_iinc4 102 C (1) dX8_nextStage_99 rfl (by decide) rfl ?_
              rw [nI_1]
              refine yr_goto 28 C dX8_nextStage_102 (by decide) ?_
              have ac := m_asked_cO hB ha hmod
              have i1 := cO_iff (by omega) ac
              refine yr_forget5 (yr_forget6 ?_)
              have an : ¬ m_asked S ((b + i) % N 1) < 0 := fun q => c77 (i1.mp q)
              have fn : f < 0 := by rw [g1]; decide
              have er : Value.ref (B 6 ((b + i) % N 1)) = va_rf (xr (B 6) (nI ((b + i) % N 1))) := by rw [xr_nI (by omega)]; rfl
              rw [er]
              exact ih (i + 1) (nI ((b + i) % N 1)) (m_asked S ((b + i) % N 1)) (m_asked S ((b + i) % N 1)) (by omega) (Or.inr ⟨_, hmod, rfl⟩) (fun _ => rfl) (by rw [← he]; simp [m_nextL, eb, an, fn]) h hR
            · rw [g2]
              refine yr_ifnull_r 87 C dX8_nextStage_84 rfl ?_
              refine yr_iload 89 C dX8_nextStage_87 rfl rfl ?_
              refine yr_iload_n 90 C dX8_nextStage_89 rfl rfl ?_
              refine yr_icmp_ge 99 93 C  dX8_nextStage_90 (by decide) rfl (fun c90 => ?_) (fun c90 => ?_)
              · refine yr_iinc4 102 C (1) dX8_nextStage_99 rfl (by decide) rfl ?_
                rw [nI_1]
                refine yr_goto 28 C dX8_nextStage_102 (by decide) ?_
                have ac := m_asked_cO hB ha hmod
                have i1 := cO_iff (by omega) ac
                refine yr_forget5 (yr_forget6 ?_)
                have an : ¬ m_asked S ((b + i) % N 1) < 0 := fun q => c77 (i1.mp q)
                have fn : ¬ f < 0 := by rw [g1]; exact nI_pos (by omega)
                have hxg := hfx (Int32.not_lt.mp fn)
                rw [← g2]
                have gl : g ≤ m_asked S ((b + i) % N 1) := by rw [← hxg]; exact c90
                exact ih (i + 1) f g x (by omega) hf hfx (by rw [← he]; simp [m_nextL, eb, an, fn, gl]) h hR
              · refine yr_aload 95 C dX8_nextStage_93 rfl rfl rfl ?_
                refine yr_astore2 96 C dX8_nextStage_95 rfl (by decide) rfl ?_
                refine yr_iload 98 C dX8_nextStage_96 rfl rfl ?_
                refine yr_istore3 99 C dX8_nextStage_98 (by decide) rfl ?_
                refine yr_iinc4 102 C (1) dX8_nextStage_99 rfl (by decide) rfl ?_
                rw [nI_1]
                refine yr_goto 28 C dX8_nextStage_102 (by decide) ?_
                have ac := m_asked_cO hB ha hmod
                have i1 := cO_iff (by omega) ac
                refine yr_forget5 (yr_forget6 ?_)
                have an : ¬ m_asked S ((b + i) % N 1) < 0 := fun q => c77 (i1.mp q)
                have fn : ¬ f < 0 := by rw [g1]; exact nI_pos (by omega)
                have hxg := hfx (Int32.not_lt.mp fn)
                have gl : ¬ g ≤ m_asked S ((b + i) % N 1) := by rw [← hxg]; exact c90
                have er : Value.ref (B 6 ((b + i) % N 1)) = va_rf (xr (B 6) (nI ((b + i) % N 1))) := by rw [xr_nI (by omega)]; rfl
                rw [er]
                exact ih (i + 1) (nI ((b + i) % N 1)) (m_asked S ((b + i) % N 1)) (m_asked S ((b + i) % N 1)) (by omega) (Or.inr ⟨_, hmod, rfl⟩) (fun _ => rfl) (by rw [← he]; simp [m_nextL, eb, an, fn, gl]) h hR
          · refine yr_goto 99 C dX8_nextStage_80 (by decide) ?_
            refine yr_iinc4 102 C (1) dX8_nextStage_99 rfl (by decide) rfl ?_
            rw [nI_1]
            refine yr_goto 28 C dX8_nextStage_102 (by decide) ?_
            have ac := m_asked_cO hB ha hmod
            have i1 := cO_iff (by omega) ac
            refine yr_forget5 (yr_forget6 ?_)
            have ag : m_asked S ((b + i) % N 1) < 0 := i1.mpr c77
            exact ih (i + 1) f g x (by omega) hf hfx (by rw [← he]; simp [m_nextL, eb, ag]) h hR
    exact loop28 (N 1) 0 (-5) 0 (-5) (by omega) (Or.inl rfl) (fun q => absurd q (by decide)) rfl h hR
  · rw [u2]
    refine yr_ifnull_r 7 C dX8_nextStage_4 rfl ?_
    refine yr_aload_n 8 C dX8_nextStage_7 rfl rfl rfl ?_
    refine yr_get 11 C dX8_nextStage_8 fl_X8_69 (rx0 hR) rfl rfl ?_
    refine yr_aret C dX8_nextStage_11 hr (Or.inl ⟨_, rfl⟩) (yd_isref_rf _) (Nat.le_of_ble_eq_true rfl) (Nat.le_of_ble_eq_true rfl) ?_
    refine ⟨?_, hR⟩
    have a1 : ¬ S 39 0 < 0 := by rw [u1]; exact nI_pos (by omega)
    simp [m_next, a1]
theorem hga_of {np ns no nr t : Nat} (hI : mI S np ns nd no nr t) (ht : t < 2 ^ 20) : ∀ g, g < ns → S 34 0 = nI g → m_asked S g < 0 := by
  intro g hg e
  have h24 := (show ∀ s, s < ns → S 34 0 = nI s → ∀ k, k < 4 → ∀ p, S 18 (4 * s + k) = nI p → p < np → S 3 p = 1 ∧ S 10 p = -5 from hI 24) g hg e
  have h9 := (show ∀ s, s < ns → ∀ k, k < 4 → cO (S 18 (4 * s + k)) np from hI 9) g hg
  have h0 : S 1 0 = nI np ∧ np ≤ 8 := hI 0
  have st : ∀ (j i : Nat), i + j = 4 → m_askL S g j i (-5) = -5 := by
    intro j
    induction j with
    | zero => intro i _; rfl
    | succ j ih =>
      intro i hij
      have q : m_askS S (S 18 (4 * g + i)) (-5) = -5 := by
        unfold m_askS
        rcases h9 i (by omega) with e1 | ⟨z, hz, e1⟩
        · rw [e1, if_pos (by decide)]
        · rw [e1, if_neg (nI_pos (by omega)), ix_nI (by omega), (h24 i (by omega) z e1 hz).2, if_pos (by decide)]
      show m_askL S g j (i + 1) (m_askS S (S 18 (4 * g + i)) (-5)) = -5
      rw [q]
      exact ih (i + 1) (by omega)
  unfold m_asked
  rw [st 4 0 rfl]
  decide
set_option maxHeartbeats 4000000 in
set_option maxRecDepth 100000 in
theorem xc_stageOf (q : Int32) (hI : mI S (N 0) (N 1) (N 2) (N 3) (N 4) t) (ht : t < 2 ^ 20) (hlf : lf = S 5) (h : yH) (hR : RX dA t0 (S) lf mc cap B N h) : yM (yZ t0 mi D dA) D yX8_stageOf cX8_stageOf 2 (some .int) 4 0 0 [.ref (B 0 0), .int q] h (fun r h' => r = some (.int (sp_stageOf S q).1) ∧ RX dA t0 ((sp_stageOf S q).2) lf mc cap B N h') := by
  refine yM_of (yZ_ok t0 mi D dA) (by decide) rfl (Nat.le_of_ble_eq_true rfl) ?_
  intro p l e s m args below meth c A C hr hin
  show yW p l e (yR 4 0 0) s m args below meth c 2 D A 0 0 _ 0 [some (.ref (B 0 0)), some (.int q)] [] h
  have h0 : S 1 0 = nI (N 0) ∧ N 0 ≤ 8 := hI 0
  have h1 : S 17 0 = nI (N 1) ∧ N 1 ≤ 6 := hI 1
  have h2 : S 19 0 = nI (N 2) ∧ N 2 ≤ 12 := hI 2
  have h5 : S 0 0 = nI t := hI 5
  have hB := mB_of_mI hI ht
  have es : ix (S 17 0) = N 1 := by rw [h1.1]; exact ix_nI (by omega)
  have h12 : cO (S 34 0) (N 1) := hI 12
  have h13 : cO (S 39 0) (N 1) := hI 13
  refine yr_iload_n 1 C dX8_stageOf_0 rfl rfl ?_
  by_cases z1_0 : q = 0
  · rw [z1_0]
    refine yr_tabIn (off := 31) 32 C dX8_stageOf_1 (by decide) (by decide) rfl (by decide) ?_
    refine yr_aload_n 33 C dX8_stageOf_32 rfl rfl rfl ?_
    refine yr_get 36 C dX8_stageOf_33 fl_X8_56 (rx0 hR) rfl rfl ?_
    refine yr_S1v 39 C (xc_numberOf _ h12 h1.2 _ hR) dX8_stageOf_36 mt_X8_numberOf ms_X8_numberOf ml_X8_207 (Nat.le_of_ble_eq_true rfl) (Nat.le_of_ble_eq_true rfl) (Nat.le_of_ble_eq_true rfl) (Nat.le_of_ble_eq_true rfl) (Nat.le_of_ble_eq_true rfl) rfl (fun h e => ?_)
    subst e
    refine yr_iret C dX8_stageOf_39 hr (Nat.le_of_ble_eq_true rfl) (Nat.le_of_ble_eq_true rfl) ?_
    refine ⟨?_, hR⟩
    simp [sp_stageOf, es, z1_0]
  by_cases z1_1 : q = 1
  · rw [z1_1]
    refine yr_tabIn (off := 39) 40 C dX8_stageOf_1 (by decide) (by decide) rfl (by decide) ?_
    refine yr_aload_n 41 C dX8_stageOf_40 rfl rfl rfl ?_
    refine yr_V0v 44 C (xc_nextStage hB (hI 18) h13 h12 (hI 14) (hga_of hI ht) _ hR) dX8_stageOf_41 mt_X8_nextStage mv_X8_nextStage ml_X8_211 (rx0 hR) rfl (Nat.le_of_ble_eq_true rfl) (Nat.le_of_ble_eq_true rfl) (Nat.le_of_ble_eq_true rfl) (Nat.le_of_ble_eq_true rfl) (Nat.le_of_ble_eq_true rfl) rfl (fun h hR => ?_)
    refine yr_S1v 47 C (xc_numberOf _ (m_next_cO h13) h1.2 _ hR) dX8_stageOf_44 mt_X8_numberOf ms_X8_numberOf ml_X8_207 (Nat.le_of_ble_eq_true rfl) (Nat.le_of_ble_eq_true rfl) (Nat.le_of_ble_eq_true rfl) (Nat.le_of_ble_eq_true rfl) (Nat.le_of_ble_eq_true rfl) rfl (fun h e => ?_)
    subst e
    refine yr_iret C dX8_stageOf_47 hr (Nat.le_of_ble_eq_true rfl) (Nat.le_of_ble_eq_true rfl) ?_
    refine ⟨?_, hR⟩
    simp [sp_stageOf, es, z1_0, z1_1]
  by_cases z1_2 : q = 2
  · rw [z1_2]
    refine yr_tabIn (off := 47) 48 C dX8_stageOf_1 (by decide) (by decide) rfl (by decide) ?_
    refine yr_aload_n 49 C dX8_stageOf_48 rfl rfl rfl ?_
    refine yr_get 52 C dX8_stageOf_49 fl_X8_69 (rx0 hR) rfl rfl ?_
    refine yr_S1v 55 C (xc_numberOf _ h13 h1.2 _ hR) dX8_stageOf_52 mt_X8_numberOf ms_X8_numberOf ml_X8_207 (Nat.le_of_ble_eq_true rfl) (Nat.le_of_ble_eq_true rfl) (Nat.le_of_ble_eq_true rfl) (Nat.le_of_ble_eq_true rfl) (Nat.le_of_ble_eq_true rfl) rfl (fun h e => ?_)
    subst e
    refine yr_iret C dX8_stageOf_55 hr (Nat.le_of_ble_eq_true rfl) (Nat.le_of_ble_eq_true rfl) ?_
    refine ⟨?_, hR⟩
    simp [sp_stageOf, es, z1_0, z1_1, z1_2]
  by_cases z1_3 : q = 3
  · rw [z1_3]
    refine yr_tabIn (off := 55) 56 C dX8_stageOf_1 (by decide) (by decide) rfl (by decide) ?_
    refine yr_aload_n 57 C dX8_stageOf_56 rfl rfl rfl ?_
    refine yr_get 60 C dX8_stageOf_57 fl_X8_56 (rx0 hR) rfl rfl ?_
    rcases xr_cases (f := B 6) (by omega) h12 with ⟨g1, g2⟩ | ⟨z, hz, g1, g2⟩
    · rw [g2]
      refine yr_ifnonnull_n 63 C dX8_stageOf_60 rfl ?_
      refine yr_bipush 65 C (-5) dX8_stageOf_63 rfl rfl ?_
      refine yr_goto 77 C dX8_stageOf_65 (by decide) ?_
      refine yr_iret C dX8_stageOf_77 hr (Nat.le_of_ble_eq_true rfl) (Nat.le_of_ble_eq_true rfl) ?_
      refine ⟨?_, hR⟩
      have a1 : ¬ (0 : Int32) ≤ -5 := by decide
      simp [sp_stageOf, es, g1, a1, z1_0, z1_1, z1_2, z1_3]
    · rw [g2]
      refine yr_ifnonnull_r 68 C dX8_stageOf_60 (by decide) ?_
      refine yr_aload_n 69 C dX8_stageOf_68 rfl rfl rfl ?_
      refine yr_get 72 C dX8_stageOf_69 fl_X8_49 (rx0 hR) rfl rfl ?_
      refine yr_aload_n 73 C dX8_stageOf_72 rfl rfl rfl ?_
      refine yr_get 76 C dX8_stageOf_73 fl_X8_60 (rx0 hR) rfl rfl ?_
      refine yr_isub 77 C dX8_stageOf_76 rfl ?_
      refine yr_iret C dX8_stageOf_77 hr (Nat.le_of_ble_eq_true rfl) (Nat.le_of_ble_eq_true rfl) ?_
      refine ⟨?_, hR⟩
      have a1 : 0 ≤ nI z := nI_pos' (by omega)
      simp [sp_stageOf, es, g1, a1, z1_0, z1_1, z1_2, z1_3]
  refine yr_tabOut 78 C dX8_stageOf_1 (sw_out 3 (by decide) (fun i hi => match i, hi with | 0, _ => z1_0 | 1, _ => z1_1 | 2, _ => z1_2 | 3, _ => z1_3 | (n + 4), q => absurd q (by omega))) (by decide) ?_
  refine yr_iconst 79 C (-1) dX8_stageOf_78 rfl rfl ?_
  refine yr_iret C dX8_stageOf_79 hr (Nat.le_of_ble_eq_true rfl) (Nat.le_of_ble_eq_true rfl) ?_
  refine ⟨?_, hR⟩
  simp [sp_stageOf, es, z1_0, z1_1, z1_2, z1_3]
end X9
