def m_runX (S : yS) (np ns nr : Nat) : yS := if m_fault (m_readAll S np nr) np nr ≤ 0 then m_run (m_readAll S np nr) np ns else m_meet (m_readAll S np nr) (m_fault (m_readAll S np nr) np nr) np nr
theorem m_fault_cases (S : yS) (np nr : Nat) : m_fault S np nr = 0 ∨ m_fault S np nr = 1 ∨ m_fault S np nr = 2 ∨ m_fault S np nr = 3 := by
  unfold m_fault
  repeat' split
  · exact Or.inr (Or.inl rfl)
  · exact Or.inr (Or.inr (Or.inl rfl))
  · exact Or.inl rfl
  · exact Or.inr (Or.inr (Or.inr rfl))
section X14
variable {D : va_G} {dA : Nat → ClassId} {t0 mi : Nat} {S : yS} {lf mc : Nat → Int32} {cap : Nat → Nat} {B : Nat → Nat → Nat} {N : Nat → Nat}
variable {t : Nat}
theorem mG_peS {S : yS} {np n2 g t i : Nat} (h : mG S np t) : mG (m_peS n2 g S i) np t := by
  unfold m_peS
  split
  · exact h
  · refine mG_endsIn (mG_change h ?_)
    split <;> decide
theorem mG_peL {np n2 g t : Nat} : ∀ {j i : Nat} {S : yS}, mG S np t → mG (m_peL n2 g j i S) np t
  | 0, _, _, h => h
  | j + 1, i, _, h => mG_peL (j := j) (i := i + 1) (mG_peS h)
set_option maxHeartbeats 4000000 in
set_option maxRecDepth 100000 in
theorem xc_runLights (hlf : lf = S 5) (hG : mG S (N 0) t) (hD : mDst S (N 1)) (hI : mI S (N 0) (N 1) (N 2) (N 3) (N 4) t) (ht : t < 2 ^ 20)  (h : yH) (hR : RX dA t0 (S) lf mc cap B N h) : yM (yZ t0 mi D dA) D yX8_runLights cX8_runLights 4 none 5 0 0 [.ref (B 0 0), .int (nI t)] h (fun r h' => r = none ∧ RX dA t0 (m_runX S (N 0) (N 1) (N 4)) (m_runX S (N 0) (N 1) (N 4) 5) mc cap B N h') := by
  refine yM_of (yZ_ok t0 mi D dA) (by decide) rfl (Nat.le_of_ble_eq_true rfl) ?_
  intro p l e s m args below meth c A C hr hin
  show yW p l e (yR 5 0 0) s m args below meth c 4 D A 0 0 _ 0 [some (.ref (B 0 0)), some (.int (nI t)), none, none] [] h
  subst hlf
  have hB := mB_of_mI hI ht
  have n0 : S 1 0 = nI (N 0) ∧ N 0 ≤ 8 := hB 0
  have n1 : S 17 0 = nI (N 1) ∧ N 1 ≤ 6 := hB 1
  have n4 : S 29 0 = nI (N 4) ∧ N 4 ≤ 6 := hB 2
  have k3 : S 0 0 = nI t ∧ t < 2 ^ 20 ∧ N 2 ≤ 12 := hB 3
  have h18 : ∀ p, p < N 0 → cO (S 10 p) (t + 1) := hI 18
  obtain ⟨R, hRe⟩ : ∃ R, R = m_readAll S (N 0) (N 4) := ⟨_, rfl⟩
  have rR : ∀ k, k ∉ lRA → R k = S k := fun k hk => by rw [hRe]; exact m_readAll_rw S (N 0) (N 4) k hk
  have hBr : mB (m_rdL (N 0) 0 S) (N 0) (N 1) (N 2) (N 4) t := mB_fr hB (mFr_rw (m_rdL_rw (N 0) 0 S) rfl)
  have hBR : mB R (N 0) (N 1) (N 2) (N 4) t := by rw [hRe]; exact mB_fr hB (mFr_rw (m_readAll_rw S (N 0) (N 4)) rfl)
  have hGR : mG R (N 0) t := mG_row hG (rR 3 (by decide))
  have R10 : R 10 = m_rdL (N 0) 0 S 10 := by rw [hRe]; exact m_prL_rw (N 4) 0 _ 10 (by decide)
  have haR : ∀ p, p < N 0 → cO (R 10 p) (t + 1) := fun p hp => by rw [R10]; exact m_rdL_ask (N 0) 0 (hI 5) h18 p hp
  have hhR : cO (R 39 0) (N 1) := by rw [rR 39 (by decide)]; exact hI 13
  have hgR : cO (R 34 0) (N 1) := by rw [rR 34 (by decide)]; exact hI 12
  have hlR : R 38 0 = -1 ∨ ∃ s, s < N 1 ∧ R 38 0 = nI s := by rw [rR 38 (by decide)]; exact hI 14
  have h25R : ∀ s, s < N 1 → R 39 0 = nI s → R 34 0 ≠ nI s := by rw [rR 39 (by decide), rR 34 (by decide)]; exact hI 25
  have hgaR : ∀ g, g < N 1 → R 34 0 = nI g → m_asked R g < 0 := by
    refine hga2 (np := N 0) n0.2 (by rw [rR 18 (by decide)]; exact hI 9) (fun s hs e k hk p e2 hp => ?_)
    rw [rR 34 (by decide)] at e
    rw [rR 18 (by decide)] at e2
    obtain ⟨q1, q2⟩ := (show ∀ s, s < N 1 → S 34 0 = nI s → ∀ k, k < 4 → ∀ p, S 18 (4 * s + k) = nI p → p < N 0 → S 3 p = 1 ∧ S 10 p = -5 from hI 24) s hs e k hk p e2 hp
    rw [R10, m_rdL_keep (N 0) 0 q1]
    exact q2
  have h13R : ∀ p, p < N 0 → ∃ k, k ≤ 9 ∧ R 13 p = nI k := fun p hp => by rw [rR 13 (by decide)]; exact ((show ∀ p, p < N 0 → (∃ k, k ≤ 60 ∧ S 11 p = nI k) ∧ (∃ k, k ≤ 120 ∧ S 12 p = nI k) ∧ ∃ k, k ≤ 9 ∧ S 13 p = nI k from hI 19) p hp).2.2
  have kR : R 0 0 = nI t := by rw [rR 0 (by decide)]; exact k3.1
  obtain ⟨U, hUe⟩ : ∃ U, U = m_pEnd R (N 0) (N 1) := ⟨_, rfl⟩
  have rU : ∀ k, k ∉ lPE → U k = R k := fun k hk => by rw [hUe]; exact m_pEnd_rw R (N 0) (N 1) k hk
  have hBU : mB U (N 0) (N 1) (N 2) (N 4) t := by rw [hUe]; exact mB_fr hBR (mFr_rw (m_pEnd_rw R (N 0) (N 1)) rfl)
  obtain ⟨W, hWe⟩ : ∃ W, W = m_amL (N 0) 0 U := ⟨_, rfl⟩
  have rW : ∀ k, k ∉ lPE → W k = R k := fun k hk => by
    rw [hWe, mRw_mono (l' := lPE) (m_amL_rw (N 0) 0 U) rfl k hk]
    exact rU k hk
  have W34 : W 34 = U 34 := by rw [hWe]; exact m_amL_rw (N 0) 0 U 34 (by decide)
  have hBW : mB W (N 0) (N 1) (N 2) (N 4) t := by rw [hWe]; exact mB_fr hBU (mFr_rw (m_amL_rw (N 0) 0 U) rfl)
  have hgW : cO (W 34 0) (N 1) := by rw [W34, hUe]; exact pEnd_34 hgR
  have hhW : cO (W 39 0) (N 1) := by rw [rW 39 (by decide)]; exact hhR
  have haW : ∀ p, p < N 0 → cO (W 10 p) (t + 1) := fun p hp => by rw [rW 10 (by decide)]; exact haR p hp
  have hlW : W 38 0 = -1 ∨ ∃ s, s < N 1 ∧ W 38 0 = nI s := by rw [rW 38 (by decide)]; exact hlR
  have kW : W 0 0 = nI t := by rw [rW 0 (by decide)]; exact kR
  refine yr_aload_n 1 C dX8_runLights_0 rfl rfl rfl ?_
  refine yr_iload_n 2 C dX8_runLights_1 rfl rfl ?_
  refine yr_V1u 5 C (xc_readPhases h18 hB _ hR) dX8_runLights_2 mt_X8_readPhases mv_X8_readPhases ml_X8_287 (rx0 hR) rfl (Nat.le_of_ble_eq_true rfl) (Nat.le_of_ble_eq_true rfl) (Nat.le_of_ble_eq_true rfl) (Nat.le_of_ble_eq_true rfl) (Nat.le_of_ble_eq_true rfl) rfl (fun h hR => ?_)
  refine yr_aload_n 6 C dX8_runLights_5 rfl rfl rfl ?_
  refine yr_iload_n 7 C dX8_runLights_6 rfl rfl ?_
  refine yr_V1u 10 C (xc_lookAtPairs hBr _ hR) dX8_runLights_7 mt_X8_lookAtPairs mv_X8_lookAtPairs ml_X8_290 (rx0 hR) rfl (Nat.le_of_ble_eq_true rfl) (Nat.le_of_ble_eq_true rfl) (Nat.le_of_ble_eq_true rfl) (Nat.le_of_ble_eq_true rfl) (Nat.le_of_ble_eq_true rfl) rfl (fun h hR => ?_)
  replace hR : RX dA t0 R (S 5) mc cap B N h := by rw [hRe]; exact hR
  refine yr_aload_n 11 C dX8_runLights_10 rfl rfl rfl ?_
  refine yr_V0v 14 C (xc_faultToMeet hBR _ hR) dX8_runLights_11 mt_X8_faultToMeet mv_X8_faultToMeet ml_X8_293 (rx0 hR) rfl (Nat.le_of_ble_eq_true rfl) (Nat.le_of_ble_eq_true rfl) (Nat.le_of_ble_eq_true rfl) (Nat.le_of_ble_eq_true rfl) (Nat.le_of_ble_eq_true rfl) rfl (fun h hR => ?_)
  refine yr_istore2 15 C dX8_runLights_14 (by decide) rfl ?_
  refine yr_iload_n 16 C dX8_runLights_15 rfl rfl ?_
  refine yr_if_eq 26 19 C  dX8_runLights_16 (by decide) rfl (fun c16 => ?_) (fun c16 => ?_)
  · refine yr_aload_n 27 C dX8_runLights_26 rfl rfl rfl ?_
    refine yr_get 30 C dX8_runLights_27 fl_X8_56 (rx0 hR) rfl rfl ?_
    rcases xr_cases (f := B 6) (by omega) hgR with ⟨g1, g2⟩ | ⟨z, hz, g1, g2⟩
    · rw [g2]
      refine yr_ifnull_n 54 C dX8_runLights_30 (by decide) ?_
      have eU : U = R := by rw [hUe]; unfold m_pEnd; rw [if_pos (by rw [g1]; decide)]
      replace hR : RX dA t0 U (U 5) mc cap B N h := by rw [eU, rR 5 (by decide)]; exact hR
      have hGU : mG U (N 0) t := by rw [eU]; exact hGR
      refine yr_aload_n 55 C dX8_runLights_54 rfl rfl rfl ?_
      refine yr_iload_n 56 C dX8_runLights_55 rfl rfl ?_
      refine yr_V1u 59 C (xc_endAmbers rfl hGU hBU _ hR) dX8_runLights_56 mt_X8_endAmbers mv_X8_endAmbers ml_X8_307 (rx0 hR) rfl (Nat.le_of_ble_eq_true rfl) (Nat.le_of_ble_eq_true rfl) (Nat.le_of_ble_eq_true rfl) (Nat.le_of_ble_eq_true rfl) (Nat.le_of_ble_eq_true rfl) rfl (fun h hR => ?_)
      replace hR : RX dA t0 W (W 5) mc cap B N h := by rw [hWe]; exact hR
      refine yr_aload_n 60 C dX8_runLights_59 rfl rfl rfl ?_
      refine yr_get 63 C dX8_runLights_60 fl_X8_56 (rx0 hR) rfl rfl ?_
      rcases xr_cases (f := B 6) (by omega) hgW with ⟨w1, w2⟩ | ⟨zw, hzw, w1, w2⟩
      · rw [w2]
        refine yr_ifnonnull_n 66 C dX8_runLights_63 rfl ?_
        refine yr_aload_n 67 C dX8_runLights_66 rfl rfl rfl ?_
        refine yr_V0v 70 C (xc_nextStage hBW haW hhW hgW hlW (fun g _ e => absurd (e.symm.trans w1) (nI_m5 (by omega))) _ hR) dX8_runLights_67 mt_X8_nextStage mv_X8_nextStage ml_X8_211 (rx0 hR) rfl (Nat.le_of_ble_eq_true rfl) (Nat.le_of_ble_eq_true rfl) (Nat.le_of_ble_eq_true rfl) (Nat.le_of_ble_eq_true rfl) (Nat.le_of_ble_eq_true rfl) rfl (fun h hR => ?_)
        rcases xr_cases (f := B 6) (by omega) (m_next_cO (ns := N 1) hhW) with ⟨v1, v2⟩ | ⟨y, hy, v1, v2⟩
        · rw [v2]
          refine yr_goto 74 C dX8_runLights_70 (by decide) ?_
          refine yr_astore3 75 C dX8_runLights_74 rfl (by decide) rfl ?_
          refine yr_aload_n 76 C dX8_runLights_75 rfl rfl rfl ?_
          refine yr_ifnull_n 93 C dX8_runLights_76 (by decide) ?_
          refine yr_vret C dX8_runLights_93 hr (Nat.le_of_ble_eq_true rfl) (Nat.le_of_ble_eq_true rfl) ?_
          have em : m_runX S (N 0) (N 1) (N 4) = m_pBegin W (N 1) := by
            unfold m_runX
            rw [← hRe, c16, if_pos (by decide)]
            unfold m_run
            rw [← hUe, ← hWe]
          rw [em]
          have w0 : ¬ 0 ≤ W 34 0 := by rw [w1]; decide
          have ew : m_pBegin W (N 1) = W := by unfold m_pBegin; rw [if_neg w0, if_neg (by rw [v1]; decide)]
          rw [ew]
          exact ⟨rfl, hR⟩
        · rw [v2]
          have vix : ix (m_next W (N 1)) = y := by rw [v1]; exact ix_nI (by omega)
          have vp : 0 ≤ m_next W (N 1) := by rw [v1]; exact nI_pos' (by omega)
          refine yr_goto 74 C dX8_runLights_70 (by decide) ?_
          refine yr_astore3 75 C dX8_runLights_74 rfl (by decide) rfl ?_
          refine yr_aload_n 76 C dX8_runLights_75 rfl rfl rfl ?_
          refine yr_ifnull_r 79 C dX8_runLights_76 rfl ?_
          refine yr_aload_n 80 C dX8_runLights_79 rfl rfl rfl ?_
          refine yr_iload_n 81 C dX8_runLights_80 rfl rfl ?_
          rw [← kW]
          refine yr_V1v 84 C (xc_mayBeGreen y hy hBW _ hR) dX8_runLights_81 mt_X7_mayBeGreen mv_X7_mayBeGreen ml_X8_310 (rx6 hR hy) rfl (Nat.le_of_ble_eq_true rfl) (Nat.le_of_ble_eq_true rfl) (Nat.le_of_ble_eq_true rfl) (Nat.le_of_ble_eq_true rfl) (Nat.le_of_ble_eq_true rfl) rfl (fun h hR => ?_)
          rw [kW]
          refine yb_eq 93 87 C  dX8_runLights_84 (by decide) rfl (fun c84 => ?_) (fun c84 => ?_)
          · refine yr_vret C dX8_runLights_93 hr (Nat.le_of_ble_eq_true rfl) (Nat.le_of_ble_eq_true rfl) ?_
            have em : m_runX S (N 0) (N 1) (N 4) = m_pBegin W (N 1) := by
              unfold m_runX
              rw [← hRe, c16, if_pos (by decide)]
              unfold m_run
              rw [← hUe, ← hWe]
            rw [em]
            have w0 : ¬ 0 ≤ W 34 0 := by rw [w1]; decide
            have ew : m_pBegin W (N 1) = W := by unfold m_pBegin; rw [if_neg w0, if_pos vp, vix, c84, if_neg (by decide)]
            rw [ew]
            exact ⟨rfl, hR⟩
          · refine yr_aload_n 88 C dX8_runLights_87 rfl rfl rfl ?_
            refine yr_aload_n 89 C dX8_runLights_88 rfl rfl rfl ?_
            refine yr_iload_n 90 C dX8_runLights_89 rfl rfl ?_
            refine yr_V2u 93 C (xc_beginStage y hy rfl (fun k hk p e hp => mayL_red n0.2 4 0 rfl c84 k (Nat.zero_le k) hk p e hp) (by rw [rW 18 (by decide), rR 18 (by decide)]; exact hD y hy) (fun p hp => by rw [rW 12 (by decide), rR 12 (by decide)]; exact ((show ∀ p, p < N 0 → (∃ k, k ≤ 60 ∧ S 11 p = nI k) ∧ (∃ k, k ≤ 120 ∧ S 12 p = nI k) ∧ ∃ k, k ≤ 9 ∧ S 13 p = nI k from hI 19) p hp).2.1) (by rw [rW 18 (by decide), rR 18 (by decide)]; exact (show ∀ s, s < N 1 → ∃ k, k < 4 ∧ S 18 (4 * s + k) ≠ -5 from hI 23) y hy) hhW hBW _ hR) dX8_runLights_90 mt_X8_beginStage mv_X8_beginStage ml_X8_314 (rx0 hR) rfl (Nat.le_of_ble_eq_true rfl) (Nat.le_of_ble_eq_true rfl) (Nat.le_of_ble_eq_true rfl) (Nat.le_of_ble_eq_true rfl) (Nat.le_of_ble_eq_true rfl) rfl (fun h hR => ?_)
            refine yr_vret C dX8_runLights_93 hr (Nat.le_of_ble_eq_true rfl) (Nat.le_of_ble_eq_true rfl) ?_
            have em : m_runX S (N 0) (N 1) (N 4) = m_pBegin W (N 1) := by
              unfold m_runX
              rw [← hRe, c16, if_pos (by decide)]
              unfold m_run
              rw [← hUe, ← hWe]
            rw [em]
            have w0 : ¬ 0 ≤ W 34 0 := by rw [w1]; decide
            have ew : m_pBegin W (N 1) = m_begin W y := by unfold m_pBegin; rw [if_neg w0, if_pos vp, vix, c84, if_pos rfl]
            rw [ew]
            exact ⟨rfl, hR⟩
      · rw [w2]
        refine yr_ifnonnull_r 73 C dX8_runLights_63 (by decide) ?_
        refine yr_null 74 C dX8_runLights_73 rfl ?_
        refine yr_astore3 75 C dX8_runLights_74 rfl (by decide) rfl ?_
        refine yr_aload_n 76 C dX8_runLights_75 rfl rfl rfl ?_
        refine yr_ifnull_n 93 C dX8_runLights_76 (by decide) ?_
        refine yr_vret C dX8_runLights_93 hr (Nat.le_of_ble_eq_true rfl) (Nat.le_of_ble_eq_true rfl) ?_
        have em : m_runX S (N 0) (N 1) (N 4) = m_pBegin W (N 1) := by
          unfold m_runX
          rw [← hRe, c16, if_pos (by decide)]
          unfold m_run
          rw [← hUe, ← hWe]
        rw [em]
        have ew : m_pBegin W (N 1) = W := by unfold m_pBegin; rw [if_pos (by rw [w1]; exact nI_pos' (by omega))]
        rw [ew]
        exact ⟨rfl, hR⟩
    · rw [g2]
      have z34 : ¬ R 34 0 < 0 := by rw [g1]; exact nI_pos (by omega)
      have zix : ix (R 34 0) = z := by rw [g1]; exact ix_nI (by omega)
      refine yr_ifnull_r 33 C dX8_runLights_30 rfl ?_
      refine yr_aload_n 34 C dX8_runLights_33 rfl rfl rfl ?_
      refine yr_aload_n 35 C dX8_runLights_34 rfl rfl rfl ?_
      refine yr_get 38 C dX8_runLights_35 fl_X8_56 (rx0 hR) rfl rfl ?_
      rw [g2]
      refine yr_iload_n 39 C dX8_runLights_38 rfl rfl ?_
      refine yr_V2v 42 C (xc_endsIn z hz hBR haR hhR hgR hlR hgaR h25R _ hR) dX8_runLights_39 mt_X8_endsIn mv_X8_endsIn ml_X8_299 (rx0 hR) rfl (Nat.le_of_ble_eq_true rfl) (Nat.le_of_ble_eq_true rfl) (Nat.le_of_ble_eq_true rfl) (Nat.le_of_ble_eq_true rfl) (Nat.le_of_ble_eq_true rfl) rfl (fun h hR => ?_)
      refine yb_eq 54 45 C  dX8_runLights_42 (by decide) rfl (fun c42 => ?_) (fun c42 => ?_)
      · have eU : U = R := by
          rw [hUe]
          unfold m_pEnd
          rw [if_neg z34, zix]
          simp only [Bool.and_eq_false_iff, decide_eq_false_iff_not] at c42
          repeat' split
          all_goals first | rfl | skip
          rename_i c1 c2 c3
          rcases c42 with q | q | q
          · rw [c1] at q; cases q
          · exact absurd c2 q
          · rw [c3] at q; cases q
        replace hR : RX dA t0 U (U 5) mc cap B N h := by rw [eU, rR 5 (by decide)]; exact hR
        have hGU : mG U (N 0) t := by rw [eU]; exact hGR
        refine yr_aload_n 55 C dX8_runLights_54 rfl rfl rfl ?_
        refine yr_iload_n 56 C dX8_runLights_55 rfl rfl ?_
        refine yr_V1u 59 C (xc_endAmbers rfl hGU hBU _ hR) dX8_runLights_56 mt_X8_endAmbers mv_X8_endAmbers ml_X8_307 (rx0 hR) rfl (Nat.le_of_ble_eq_true rfl) (Nat.le_of_ble_eq_true rfl) (Nat.le_of_ble_eq_true rfl) (Nat.le_of_ble_eq_true rfl) (Nat.le_of_ble_eq_true rfl) rfl (fun h hR => ?_)
        replace hR : RX dA t0 W (W 5) mc cap B N h := by rw [hWe]; exact hR
        refine yr_aload_n 60 C dX8_runLights_59 rfl rfl rfl ?_
        refine yr_get 63 C dX8_runLights_60 fl_X8_56 (rx0 hR) rfl rfl ?_
        rcases xr_cases (f := B 6) (by omega) hgW with ⟨w1, w2⟩ | ⟨zw, hzw, w1, w2⟩
        · rw [w2]
          refine yr_ifnonnull_n 66 C dX8_runLights_63 rfl ?_
          refine yr_aload_n 67 C dX8_runLights_66 rfl rfl rfl ?_
          refine yr_V0v 70 C (xc_nextStage hBW haW hhW hgW hlW (fun g _ e => absurd (e.symm.trans w1) (nI_m5 (by omega))) _ hR) dX8_runLights_67 mt_X8_nextStage mv_X8_nextStage ml_X8_211 (rx0 hR) rfl (Nat.le_of_ble_eq_true rfl) (Nat.le_of_ble_eq_true rfl) (Nat.le_of_ble_eq_true rfl) (Nat.le_of_ble_eq_true rfl) (Nat.le_of_ble_eq_true rfl) rfl (fun h hR => ?_)
          rcases xr_cases (f := B 6) (by omega) (m_next_cO (ns := N 1) hhW) with ⟨v1, v2⟩ | ⟨y, hy, v1, v2⟩
          · rw [v2]
            refine yr_goto 74 C dX8_runLights_70 (by decide) ?_
            refine yr_astore3 75 C dX8_runLights_74 rfl (by decide) rfl ?_
            refine yr_aload_n 76 C dX8_runLights_75 rfl rfl rfl ?_
            refine yr_ifnull_n 93 C dX8_runLights_76 (by decide) ?_
            refine yr_vret C dX8_runLights_93 hr (Nat.le_of_ble_eq_true rfl) (Nat.le_of_ble_eq_true rfl) ?_
            have em : m_runX S (N 0) (N 1) (N 4) = m_pBegin W (N 1) := by
              unfold m_runX
              rw [← hRe, c16, if_pos (by decide)]
              unfold m_run
              rw [← hUe, ← hWe]
            rw [em]
            have w0 : ¬ 0 ≤ W 34 0 := by rw [w1]; decide
            have ew : m_pBegin W (N 1) = W := by unfold m_pBegin; rw [if_neg w0, if_neg (by rw [v1]; decide)]
            rw [ew]
            exact ⟨rfl, hR⟩
          · rw [v2]
            have vix : ix (m_next W (N 1)) = y := by rw [v1]; exact ix_nI (by omega)
            have vp : 0 ≤ m_next W (N 1) := by rw [v1]; exact nI_pos' (by omega)
            refine yr_goto 74 C dX8_runLights_70 (by decide) ?_
            refine yr_astore3 75 C dX8_runLights_74 rfl (by decide) rfl ?_
            refine yr_aload_n 76 C dX8_runLights_75 rfl rfl rfl ?_
            refine yr_ifnull_r 79 C dX8_runLights_76 rfl ?_
            refine yr_aload_n 80 C dX8_runLights_79 rfl rfl rfl ?_
            refine yr_iload_n 81 C dX8_runLights_80 rfl rfl ?_
            rw [← kW]
            refine yr_V1v 84 C (xc_mayBeGreen y hy hBW _ hR) dX8_runLights_81 mt_X7_mayBeGreen mv_X7_mayBeGreen ml_X8_310 (rx6 hR hy) rfl (Nat.le_of_ble_eq_true rfl) (Nat.le_of_ble_eq_true rfl) (Nat.le_of_ble_eq_true rfl) (Nat.le_of_ble_eq_true rfl) (Nat.le_of_ble_eq_true rfl) rfl (fun h hR => ?_)
            rw [kW]
            refine yb_eq 93 87 C  dX8_runLights_84 (by decide) rfl (fun c84 => ?_) (fun c84 => ?_)
            · refine yr_vret C dX8_runLights_93 hr (Nat.le_of_ble_eq_true rfl) (Nat.le_of_ble_eq_true rfl) ?_
              have em : m_runX S (N 0) (N 1) (N 4) = m_pBegin W (N 1) := by
                unfold m_runX
                rw [← hRe, c16, if_pos (by decide)]
                unfold m_run
                rw [← hUe, ← hWe]
              rw [em]
              have w0 : ¬ 0 ≤ W 34 0 := by rw [w1]; decide
              have ew : m_pBegin W (N 1) = W := by unfold m_pBegin; rw [if_neg w0, if_pos vp, vix, c84, if_neg (by decide)]
              rw [ew]
              exact ⟨rfl, hR⟩
            · refine yr_aload_n 88 C dX8_runLights_87 rfl rfl rfl ?_
              refine yr_aload_n 89 C dX8_runLights_88 rfl rfl rfl ?_
              refine yr_iload_n 90 C dX8_runLights_89 rfl rfl ?_
              refine yr_V2u 93 C (xc_beginStage y hy rfl (fun k hk p e hp => mayL_red n0.2 4 0 rfl c84 k (Nat.zero_le k) hk p e hp) (by rw [rW 18 (by decide), rR 18 (by decide)]; exact hD y hy) (fun p hp => by rw [rW 12 (by decide), rR 12 (by decide)]; exact ((show ∀ p, p < N 0 → (∃ k, k ≤ 60 ∧ S 11 p = nI k) ∧ (∃ k, k ≤ 120 ∧ S 12 p = nI k) ∧ ∃ k, k ≤ 9 ∧ S 13 p = nI k from hI 19) p hp).2.1) (by rw [rW 18 (by decide), rR 18 (by decide)]; exact (show ∀ s, s < N 1 → ∃ k, k < 4 ∧ S 18 (4 * s + k) ≠ -5 from hI 23) y hy) hhW hBW _ hR) dX8_runLights_90 mt_X8_beginStage mv_X8_beginStage ml_X8_314 (rx0 hR) rfl (Nat.le_of_ble_eq_true rfl) (Nat.le_of_ble_eq_true rfl) (Nat.le_of_ble_eq_true rfl) (Nat.le_of_ble_eq_true rfl) (Nat.le_of_ble_eq_true rfl) rfl (fun h hR => ?_)
              refine yr_vret C dX8_runLights_93 hr (Nat.le_of_ble_eq_true rfl) (Nat.le_of_ble_eq_true rfl) ?_
              have em : m_runX S (N 0) (N 1) (N 4) = m_pBegin W (N 1) := by
                unfold m_runX
                rw [← hRe, c16, if_pos (by decide)]
                unfold m_run
                rw [← hUe, ← hWe]
              rw [em]
              have w0 : ¬ 0 ≤ W 34 0 := by rw [w1]; decide
              have ew : m_pBegin W (N 1) = m_begin W y := by unfold m_pBegin; rw [if_neg w0, if_pos vp, vix, c84, if_pos rfl]
              rw [ew]
              exact ⟨rfl, hR⟩
        · rw [w2]
          refine yr_ifnonnull_r 73 C dX8_runLights_63 (by decide) ?_
          refine yr_null 74 C dX8_runLights_73 rfl ?_
          refine yr_astore3 75 C dX8_runLights_74 rfl (by decide) rfl ?_
          refine yr_aload_n 76 C dX8_runLights_75 rfl rfl rfl ?_
          refine yr_ifnull_n 93 C dX8_runLights_76 (by decide) ?_
          refine yr_vret C dX8_runLights_93 hr (Nat.le_of_ble_eq_true rfl) (Nat.le_of_ble_eq_true rfl) ?_
          have em : m_runX S (N 0) (N 1) (N 4) = m_pBegin W (N 1) := by
            unfold m_runX
            rw [← hRe, c16, if_pos (by decide)]
            unfold m_run
            rw [← hUe, ← hWe]
          rw [em]
          have ew : m_pBegin W (N 1) = W := by unfold m_pBegin; rw [if_pos (by rw [w1]; exact nI_pos' (by omega))]
          rw [ew]
          exact ⟨rfl, hR⟩
      · refine yr_aload_n 46 C dX8_runLights_45 rfl rfl rfl ?_
        refine yr_aload_n 47 C dX8_runLights_46 rfl rfl rfl ?_
        refine yr_get 50 C dX8_runLights_47 fl_X8_56 (rx0 hR) rfl rfl ?_
        rw [g2]
        refine yr_iload_n 51 C dX8_runLights_50 rfl rfl ?_
        refine yr_V2u 54 C (xc_endStage z hz (rR 5 (by decide)).symm hGR h13R hBR _ hR) dX8_runLights_51 mt_X8_endStage mv_X8_endStage ml_X8_303 (rx0 hR) rfl (Nat.le_of_ble_eq_true rfl) (Nat.le_of_ble_eq_true rfl) (Nat.le_of_ble_eq_true rfl) (Nat.le_of_ble_eq_true rfl) (Nat.le_of_ble_eq_true rfl) rfl (fun h hR => ?_)
        have eU : U = mset (m_peL (N 0) z 4 0 R) 34 0 (-5) := by
          rw [hUe]
          unfold m_pEnd
          rw [if_neg z34, zix]
          simp only [Bool.and_eq_true, decide_eq_true_eq] at c42
          rw [if_pos c42.1, if_pos c42.2.1, if_pos c42.2.2]
        replace hR : RX dA t0 U (U 5) mc cap B N h := by rw [eU]; exact hR
        have hGU : mG U (N 0) t := by rw [eU]; exact mG_row (mG_peL hGR) (mset_ne _ _ (by decide))
        refine yr_aload_n 55 C dX8_runLights_54 rfl rfl rfl ?_
        refine yr_iload_n 56 C dX8_runLights_55 rfl rfl ?_
        refine yr_V1u 59 C (xc_endAmbers rfl hGU hBU _ hR) dX8_runLights_56 mt_X8_endAmbers mv_X8_endAmbers ml_X8_307 (rx0 hR) rfl (Nat.le_of_ble_eq_true rfl) (Nat.le_of_ble_eq_true rfl) (Nat.le_of_ble_eq_true rfl) (Nat.le_of_ble_eq_true rfl) (Nat.le_of_ble_eq_true rfl) rfl (fun h hR => ?_)
        replace hR : RX dA t0 W (W 5) mc cap B N h := by rw [hWe]; exact hR
        refine yr_aload_n 60 C dX8_runLights_59 rfl rfl rfl ?_
        refine yr_get 63 C dX8_runLights_60 fl_X8_56 (rx0 hR) rfl rfl ?_
        rcases xr_cases (f := B 6) (by omega) hgW with ⟨w1, w2⟩ | ⟨zw, hzw, w1, w2⟩
        · rw [w2]
          refine yr_ifnonnull_n 66 C dX8_runLights_63 rfl ?_
          refine yr_aload_n 67 C dX8_runLights_66 rfl rfl rfl ?_
          refine yr_V0v 70 C (xc_nextStage hBW haW hhW hgW hlW (fun g _ e => absurd (e.symm.trans w1) (nI_m5 (by omega))) _ hR) dX8_runLights_67 mt_X8_nextStage mv_X8_nextStage ml_X8_211 (rx0 hR) rfl (Nat.le_of_ble_eq_true rfl) (Nat.le_of_ble_eq_true rfl) (Nat.le_of_ble_eq_true rfl) (Nat.le_of_ble_eq_true rfl) (Nat.le_of_ble_eq_true rfl) rfl (fun h hR => ?_)
          rcases xr_cases (f := B 6) (by omega) (m_next_cO (ns := N 1) hhW) with ⟨v1, v2⟩ | ⟨y, hy, v1, v2⟩
          · rw [v2]
            refine yr_goto 74 C dX8_runLights_70 (by decide) ?_
            refine yr_astore3 75 C dX8_runLights_74 rfl (by decide) rfl ?_
            refine yr_aload_n 76 C dX8_runLights_75 rfl rfl rfl ?_
            refine yr_ifnull_n 93 C dX8_runLights_76 (by decide) ?_
            refine yr_vret C dX8_runLights_93 hr (Nat.le_of_ble_eq_true rfl) (Nat.le_of_ble_eq_true rfl) ?_
            have em : m_runX S (N 0) (N 1) (N 4) = m_pBegin W (N 1) := by
              unfold m_runX
              rw [← hRe, c16, if_pos (by decide)]
              unfold m_run
              rw [← hUe, ← hWe]
            rw [em]
            have w0 : ¬ 0 ≤ W 34 0 := by rw [w1]; decide
            have ew : m_pBegin W (N 1) = W := by unfold m_pBegin; rw [if_neg w0, if_neg (by rw [v1]; decide)]
            rw [ew]
            exact ⟨rfl, hR⟩
          · rw [v2]
            have vix : ix (m_next W (N 1)) = y := by rw [v1]; exact ix_nI (by omega)
            have vp : 0 ≤ m_next W (N 1) := by rw [v1]; exact nI_pos' (by omega)
            refine yr_goto 74 C dX8_runLights_70 (by decide) ?_
            refine yr_astore3 75 C dX8_runLights_74 rfl (by decide) rfl ?_
            refine yr_aload_n 76 C dX8_runLights_75 rfl rfl rfl ?_
            refine yr_ifnull_r 79 C dX8_runLights_76 rfl ?_
            refine yr_aload_n 80 C dX8_runLights_79 rfl rfl rfl ?_
            refine yr_iload_n 81 C dX8_runLights_80 rfl rfl ?_
            rw [← kW]
            refine yr_V1v 84 C (xc_mayBeGreen y hy hBW _ hR) dX8_runLights_81 mt_X7_mayBeGreen mv_X7_mayBeGreen ml_X8_310 (rx6 hR hy) rfl (Nat.le_of_ble_eq_true rfl) (Nat.le_of_ble_eq_true rfl) (Nat.le_of_ble_eq_true rfl) (Nat.le_of_ble_eq_true rfl) (Nat.le_of_ble_eq_true rfl) rfl (fun h hR => ?_)
            rw [kW]
            refine yb_eq 93 87 C  dX8_runLights_84 (by decide) rfl (fun c84 => ?_) (fun c84 => ?_)
            · refine yr_vret C dX8_runLights_93 hr (Nat.le_of_ble_eq_true rfl) (Nat.le_of_ble_eq_true rfl) ?_
              have em : m_runX S (N 0) (N 1) (N 4) = m_pBegin W (N 1) := by
                unfold m_runX
                rw [← hRe, c16, if_pos (by decide)]
                unfold m_run
                rw [← hUe, ← hWe]
              rw [em]
              have w0 : ¬ 0 ≤ W 34 0 := by rw [w1]; decide
              have ew : m_pBegin W (N 1) = W := by unfold m_pBegin; rw [if_neg w0, if_pos vp, vix, c84, if_neg (by decide)]
              rw [ew]
              exact ⟨rfl, hR⟩
            · refine yr_aload_n 88 C dX8_runLights_87 rfl rfl rfl ?_
              refine yr_aload_n 89 C dX8_runLights_88 rfl rfl rfl ?_
              refine yr_iload_n 90 C dX8_runLights_89 rfl rfl ?_
              refine yr_V2u 93 C (xc_beginStage y hy rfl (fun k hk p e hp => mayL_red n0.2 4 0 rfl c84 k (Nat.zero_le k) hk p e hp) (by rw [rW 18 (by decide), rR 18 (by decide)]; exact hD y hy) (fun p hp => by rw [rW 12 (by decide), rR 12 (by decide)]; exact ((show ∀ p, p < N 0 → (∃ k, k ≤ 60 ∧ S 11 p = nI k) ∧ (∃ k, k ≤ 120 ∧ S 12 p = nI k) ∧ ∃ k, k ≤ 9 ∧ S 13 p = nI k from hI 19) p hp).2.1) (by rw [rW 18 (by decide), rR 18 (by decide)]; exact (show ∀ s, s < N 1 → ∃ k, k < 4 ∧ S 18 (4 * s + k) ≠ -5 from hI 23) y hy) hhW hBW _ hR) dX8_runLights_90 mt_X8_beginStage mv_X8_beginStage ml_X8_314 (rx0 hR) rfl (Nat.le_of_ble_eq_true rfl) (Nat.le_of_ble_eq_true rfl) (Nat.le_of_ble_eq_true rfl) (Nat.le_of_ble_eq_true rfl) (Nat.le_of_ble_eq_true rfl) rfl (fun h hR => ?_)
              refine yr_vret C dX8_runLights_93 hr (Nat.le_of_ble_eq_true rfl) (Nat.le_of_ble_eq_true rfl) ?_
              have em : m_runX S (N 0) (N 1) (N 4) = m_pBegin W (N 1) := by
                unfold m_runX
                rw [← hRe, c16, if_pos (by decide)]
                unfold m_run
                rw [← hUe, ← hWe]
              rw [em]
              have w0 : ¬ 0 ≤ W 34 0 := by rw [w1]; decide
              have ew : m_pBegin W (N 1) = m_begin W y := by unfold m_pBegin; rw [if_neg w0, if_pos vp, vix, c84, if_pos rfl]
              rw [ew]
              exact ⟨rfl, hR⟩
        · rw [w2]
          refine yr_ifnonnull_r 73 C dX8_runLights_63 (by decide) ?_
          refine yr_null 74 C dX8_runLights_73 rfl ?_
          refine yr_astore3 75 C dX8_runLights_74 rfl (by decide) rfl ?_
          refine yr_aload_n 76 C dX8_runLights_75 rfl rfl rfl ?_
          refine yr_ifnull_n 93 C dX8_runLights_76 (by decide) ?_
          refine yr_vret C dX8_runLights_93 hr (Nat.le_of_ble_eq_true rfl) (Nat.le_of_ble_eq_true rfl) ?_
          have em : m_runX S (N 0) (N 1) (N 4) = m_pBegin W (N 1) := by
            unfold m_runX
            rw [← hRe, c16, if_pos (by decide)]
            unfold m_run
            rw [← hUe, ← hWe]
          rw [em]
          have ew : m_pBegin W (N 1) = W := by unfold m_pBegin; rw [if_pos (by rw [w1]; exact nI_pos' (by omega))]
          rw [ew]
          exact ⟨rfl, hR⟩
  · refine yr_aload_n 20 C dX8_runLights_19 rfl rfl rfl ?_
    refine yr_iload_n 21 C dX8_runLights_20 rfl rfl ?_
    refine yr_iload_n 22 C dX8_runLights_21 rfl rfl ?_
    refine yr_V2u 25 C (xc_meetFault _ (rR 5 (by decide)).symm hGR hBR _ hR) dX8_runLights_22 mt_X8_meetFault mv_X8_meetFault ml_X8_296 (rx0 hR) rfl (Nat.le_of_ble_eq_true rfl) (Nat.le_of_ble_eq_true rfl) (Nat.le_of_ble_eq_true rfl) (Nat.le_of_ble_eq_true rfl) (Nat.le_of_ble_eq_true rfl) rfl (fun h hR => ?_)
    refine yr_vret C dX8_runLights_25 hr (Nat.le_of_ble_eq_true rfl) (Nat.le_of_ble_eq_true rfl) ?_
    have em : m_runX S (N 0) (N 1) (N 4) = m_meet R (m_fault R (N 0) (N 4)) (N 0) (N 4) := by
      unfold m_runX
      rw [← hRe, if_neg]
      rcases m_fault_cases R (N 0) (N 4) with q | q | q | q
      · exact absurd q c16
      · rw [q]; decide
      · rw [q]; decide
      · rw [q]; decide
    rw [em]
    exact ⟨rfl, hR⟩
end X14
