theorem RX_ext {dA : Nat → ClassId} {t0 : Nat} {S S' : yS} {lf mc : Nat → Int32} {cap : Nat → Nat} {B : Nat → Nat → Nat} {N : Nat → Nat} {h : yH} (hR : RX dA t0 S lf mc cap B N h) (e : mRw [1, 17, 19, 23, 29, 43, 52] S S') : RX dA t0 S' lf mc cap B N h := by
  have q : ∀ k, k < 17 → ∀ r, (xRows k).contains r = true → S' r = S r := by
    intro k hk r hr
    refine e r ?_
    have : ∀ k, k < 17 → ∀ r, r ∈ xRows k → r ∉ [1, 17, 19, 23, 29, 43, 52] := by decide
    exact this k hk r (by simpa using hr)
  have v : ∀ k i, xV S' cap N k i ↔ xV S cap N k i := fun k i => xV_eq (e 20 (by decide)) k i
  refine ⟨fun k i hv => ?_, fun k i k' i' h1 h2 he => hR.2.1 k i k' i' ((v _ _).mp h1) ((v _ _).mp h2) he, hR.2.2⟩
  have hv' := (v k i).mp hv
  rw [xC_rows (xV_lt hv') (q k (xV_lt hv'))]
  exact hR.1 k i hv'
theorem mset_cong {l : List Nat} {S S' : yS} (h : mRw l S S') (k j : Nat) (u : Int32) : mRw l (mset S k j u) (mset S' k j u) := by
  intro q hq
  by_cases c : q = k
  · subst c
    rw [mset_row, mset_row, h q hq]
  · rw [mset_ne _ _ c, mset_ne _ _ c, h q hq]
/-- the rows that a change of lights neither reads nor writes -/
abbrev lo : List Nat := [40, 43, 44]
theorem found_cong {S S' : yS} (h : mRw lo S S') (a : Nat) (p : Int32) : mRw lo (m_found S a p) (m_found S' a p) := by
  unfold m_found
  rw [h 46 (by decide)]
  exact mset_cong (mset_cong (mset_cong h _ _ _) _ _ _) _ _ _
theorem sumL_cong {S S' : yS} (h : S' 21 = S 21) (d : Nat) : ∀ j i x, m_sumL S' d j i x = m_sumL S d j i x
  | 0, _, _ => rfl
  | j + 1, i, x => by
    unfold m_sumL
    rw [h, sumL_cong h d j (i + 1) _]
theorem gap_cong {S S' : yS} (h : mRw lo S S') (p : Nat) : (m_gap S' p).1 = (m_gap S p).1 ∧ mRw lo (m_gap S p).2 (m_gap S' p).2 := by
  unfold m_gap
  simp only [h 2 (by decide), h 4 (by decide), h 20 (by decide), h 0 (by decide), h 35 (by decide), sumL_cong (h 21 (by decide))]
  repeat' split
  all_goals first | exact ⟨rfl, h⟩ | exact ⟨rfl, found_cong h _ _⟩
theorem change_cong {S S' : yS} (h : mRw lo S S') (p : Nat) (v : Int32) : mRw lo (m_change S p v) (m_change S' p v) := by
  have h0 : mRw lo (m_chg0 S p) (m_chg0 S' p) := by
    unfold m_chg0
    rw [h 5 (by decide)]
    exact mset_cong h _ _ _
  have h1 : mRw lo (m_chg1 (m_chg0 S p) p) (m_chg1 (m_chg0 S' p) p) := by
    unfold m_chg1
    rw [h0 3 (by decide), (gap_cong h0 p).1]
    split
    · exact mset_cong (gap_cong h0 p).2 _ _ _
    · exact h0
  unfold m_change m_chg2
  rw [h1 49 (by decide)]
  exact mset_cong (mset_cong h1 _ _ _) _ _ _
theorem free_cong {S S' : yS} (h : mRw lo S S') (p q : Nat) (u : Int32) : mRw lo (m_free S p q u) (m_free S' p q u) := by
  unfold m_free
  rw [h 16 (by decide), h 9 (by decide)]
  repeat' split
  all_goals first | exact h | exact mset_cong h _ _ _
theorem endL_cong (p : Nat) (u : Int32) : ∀ (j i : Nat) {S S' : yS}, mRw lo S S' → mRw lo (m_endL p u j i S) (m_endL p u j i S')
  | 0, _, _, _, h => h
  | j + 1, i, _, _, h => endL_cong p u j (i + 1) (free_cong h p i u)
theorem mfL_cong (np : Nat) : ∀ (j i : Nat) {S S' : yS}, mRw lo S S' → mRw lo (m_mfL np j i S) (m_mfL np j i S')
  | 0, _, _, _, h => h
  | j + 1, i, S, S', h => mfL_cong np j (i + 1) (by
    unfold m_mfS
    rw [h 3 (by decide)]
    split
    · have q := change_cong h i 0
      unfold m_endsIn
      rw [q 0 (by decide)]
      exact endL_cong i _ np 0 (mset_cong q _ _ _)
    · exact h)
theorem allL_cong (v : Int32) : ∀ (j i : Nat) {S S' : yS}, mRw lo S S' → mRw lo (m_allL v j i S) (m_allL v j i S')
  | 0, _, _, _, h => h
  | j + 1, i, _, _, h => allL_cong v j (i + 1) (change_cong h i v)
theorem clrL_cong {l : List Nat} : ∀ (j i : Nat) {S S' : yS}, mRw l S S' → mRw l (m_clrL j i S) (m_clrL j i S')
  | 0, _, _, _, h => h
  | j + 1, i, _, _, h => clrL_cong j (i + 1) (mset_cong h 33 i 0)
/-- the class's way to the same state -/
def x_mf1 (S : yS) (v u : Int32) : yS := mset (mset (mset (mset (mset S 45 0 (S 45 0 + 1)) 41 0 v) 42 0 u) 44 0 1) 40 0 0
theorem x_meet (S : yS) (v : Int32) (np nr : Nat) : mRw [1, 17, 19, 23, 29, 43, 52] (m_clrL nr 0 (mset (mset (m_mfL np np 0 (x_mf1 S v (S 0 0))) 34 0 (-5)) 39 0 (-5))) (m_meet S v np nr) := by
  have a : mRw lo (x_mf1 S v (S 0 0)) (m_mf1 S v) := by
    intro q hq
    unfold x_mf1 m_mf1
    have h40 : q ≠ 40 := fun z => hq (by rw [z]; decide)
    have h43 : q ≠ 43 := fun z => hq (by rw [z]; decide)
    have h44 : q ≠ 44 := fun z => hq (by rw [z]; decide)
    rw [mset_ne _ _ h44, mset_ne _ _ h43, mset_ne _ _ h40, mset_ne _ _ h44]
  have b := mfL_cong np np 0 a
  have r1 := m_mfL_rw np np 0 (x_mf1 S v (S 0 0))
  have r2 := m_mfL_rw np np 0 (m_mf1 S v)
  unfold m_meet
  refine clrL_cong nr 0 ?_
  intro q hq
  have h43 : q ≠ 43 := fun z => hq (by rw [z]; decide)
  unfold m_mf2
  by_cases c40 : q = 40
  · subst c40
    rw [mset_row, mset_ne _ _ (by decide), mset_ne _ _ (by decide), mset_ne _ _ (by decide), mset_ne _ _ (by decide), r1 40 (by decide), r2 40 (by decide)]
    unfold x_mf1 m_mf1
    rw [mset_row]
    congr 1
  · rw [mset_ne _ _ c40]
    by_cases c44 : q = 44
    · subst c44
      rw [mset_ne _ _ (by decide), mset_ne _ _ (by decide), mset_ne _ _ (by decide), mset_ne _ _ (by decide), r1 44 (by decide), r2 44 (by decide)]
      unfold x_mf1 m_mf1
      simp [mset_row, mset_ne]
    · have d : q ∉ lo := by simp [lo, c40, h43, c44]
      exact mset_cong (mset_cong b _ _ _) _ _ _ q d
theorem allL_44 (S : yS) (v u : Int32) (np : Nat) : m_allL v np 0 (mset S 44 0 u) = mset (m_allL v np 0 S) 44 0 u := by
  funext q
  by_cases c : q = 44
  · subst c
    rw [m_allL_rw v np 0 _ 44 (by decide), mset_row, mset_row, m_allL_rw v np 0 S 44 (by decide)]
  · rw [mset_ne _ _ c]
    by_cases d : q ∈ lo
    · have e1 : q ∉ lChg := by
        simp [lo] at d
        rcases d with rfl | rfl | rfl <;> decide
      rw [m_allL_rw v np 0 _ q e1, m_allL_rw v np 0 S q e1, mset_ne _ _ c]
    · exact allL_cong v np 0 (S := S) (S' := mset S 44 0 u) (fun k hk => mset_ne _ _ (fun z => hk (by rw [z]; decide))) q d
theorem mG_endsIn {S : yS} {np n2 t z : Nat} {u : Int32} (h : mG S np t) : mG (m_endsIn S n2 z u) np t := mG_row h (m_endsIn_rw S n2 z u 3 (by decide))
theorem mG_mfS {S : yS} {np t i : Nat} (h : mG S np t) : mG (m_mfS np S i) np t := by
  unfold m_mfS
  split
  · exact mG_endsIn (mG_change h (by decide))
  · exact h
section X12
variable {D : va_G} {dA : Nat → ClassId} {t0 mi : Nat} {S : yS} {lf mc : Nat → Int32} {cap : Nat → Nat} {B : Nat → Nat → Nat} {N : Nat → Nat}
variable {t : Nat}
set_option maxHeartbeats 4000000 in
set_option maxRecDepth 100000 in
theorem xc_meetFault (v : Int32) (hlf : lf = S 5) (hG : mG S (N 0) t) (hB : mB S (N 0) (N 1) (N 2) (N 4) t) (h : yH) (hR : RX dA t0 (S) lf mc cap B N h) : yM (yZ t0 mi D dA) D yX8_meetFault cX8_meetFault 5 none 4 0 0 [.ref (B 0 0), .int v, .int (nI t)] h (fun r h' => r = none ∧ RX dA t0 (m_meet S v (N 0) (N 4)) (m_meet S v (N 0) (N 4) 5) mc cap B N h') := by
  refine yM_of (yZ_ok t0 mi D dA) (by decide) rfl (Nat.le_of_ble_eq_true rfl) ?_
  intro p l e s m args below meth c A C hr hin
  show yW p l e (yR 4 0 0) s m args below meth c 5 D A 0 0 _ 0 [some (.ref (B 0 0)), some (.int v), some (.int (nI t)), none, none] [] h
  subst hlf
  have n0 : S 1 0 = nI (N 0) ∧ N 0 ≤ 8 := hB 0
  have n1 : S 17 0 = nI (N 1) ∧ N 1 ≤ 6 := hB 1
  have n4 : S 29 0 = nI (N 4) ∧ N 4 ≤ 6 := hB 2
  have k3 : S 0 0 = nI t ∧ t < 2 ^ 20 ∧ N 2 ≤ 12 := hB 3
  have k0 : S 0 0 = nI t := k3.1
  have g3 : x_mf1 S v (nI t) 3 = S 3 := by unfold x_mf1; rw [mset_ne _ _ (by decide), mset_ne _ _ (by decide), mset_ne _ _ (by decide), mset_ne _ _ (by decide), mset_ne _ _ (by decide)]
  have g5 : x_mf1 S v (nI t) 5 = S 5 := by unfold x_mf1; rw [mset_ne _ _ (by decide), mset_ne _ _ (by decide), mset_ne _ _ (by decide), mset_ne _ _ (by decide), mset_ne _ _ (by decide)]
  have hfr : mFr S (x_mf1 S v (nI t)) := mFr_tr (mFr_tr (mFr_tr (mFr_tr (mFr_set S _ _ rfl) (mFr_set _ _ _ rfl)) (mFr_set _ _ _ rfl)) (mFr_set _ _ _ rfl)) (mFr_set _ _ _ rfl)
  refine yr_aload_n 1 C dX8_meetFault_0 rfl rfl rfl ?_
  refine yr_get 4 C dX8_meetFault_1 fl_X8_38 (rx0 hR) rfl rfl ?_
  refine yr_iload_n 5 C dX8_meetFault_4 rfl rfl ?_
  refine yr_iload_n 6 C dX8_meetFault_5 rfl rfl ?_
  refine yr_V2u 9 C (xc_meet _ _ _ hR) dX8_meetFault_6 mt_X2_meet mv_X2_meet ml_X8_389 (rx15 hR) rfl (Nat.le_of_ble_eq_true rfl) (Nat.le_of_ble_eq_true rfl) (Nat.le_of_ble_eq_true rfl) (Nat.le_of_ble_eq_true rfl) (Nat.le_of_ble_eq_true rfl) rfl (fun h hR => ?_)
  replace hR : RX dA t0 (x_mf1 S v (nI t)) (x_mf1 S v (nI t) 5) mc cap B N h := by rw [g5]; exact hR
  refine yr_iconst 10 C (0) dX8_meetFault_9 rfl rfl ?_
  refine yr_istore3 11 C dX8_meetFault_10 (by decide) rfl ?_
  have loop11 : ∀ (j i : Nat) (X : yS), i + j = N 0 → mB X (N 0) (N 1) (N 2) (N 4) t → mG X (N 0) t → m_mfL (N 0) j i X = m_mfL (N 0) (N 0) 0 (x_mf1 S v (nI t)) → ∀ h : yH, RX dA t0 (X) (X 5) mc cap B N h → yW p l e (yR 4 0 0) s m args below meth c 5 D A 0 0 (yF D A (fun r h' => r = none ∧ RX dA t0 (m_meet S v (N 0) (N 4)) (m_meet S v (N 0) (N 4) 5) mc cap B N h') below args s 0 0) 11 [some (.ref (B 0 0)), some (.int v), some (.int (nI t)), some (.int (nI i)), none] [] h := by
    intro j
    induction j with
    | zero =>
      intro i X hij hX hGX he h hR
      have n0 : X 1 0 = nI (N 0) ∧ N 0 ≤ 8 := hX 0
      have n1 : X 17 0 = nI (N 1) ∧ N 1 ≤ 6 := hX 1
      have n4 : X 29 0 = nI (N 4) ∧ N 4 ≤ 6 := hX 2
      have k3 : X 0 0 = nI t ∧ t < 2 ^ 20 ∧ N 2 ≤ 12 := hX 3
      refine yr_iload_n 12 C dX8_meetFault_11 rfl rfl ?_
      refine yr_aload_n 13 C dX8_meetFault_12 rfl rfl rfl ?_
      refine yr_get 16 C dX8_meetFault_13 fl_X8_10 (rx0 hR) rfl rfl ?_
      refine yr_V0v 19 C (jl_size (show 0 < 5 by decide) _ hR) dX8_meetFault_16 mt_Jx4a65c_size_8abf5 mv_Jx4a65c_size_8abf5 ml_X8_75 (rx1 hR (show 0 < 5 by decide)) rfl (Nat.le_of_ble_eq_true rfl) (Nat.le_of_ble_eq_true rfl) (Nat.le_of_ble_eq_true rfl) (Nat.le_of_ble_eq_true rfl) (Nat.le_of_ble_eq_true rfl) rfl (fun h e => ?_)
      subst e
      refine yr_icmp_ge 67 22 C  dX8_meetFault_19 (by decide) rfl (fun c19 => ?_) (fun c19 => ?_)
      rotate_left
      · exact absurd (nI_le (by omega) (by omega)) c19
      refine yr_aload_n 68 C dX8_meetFault_67 rfl rfl rfl ?_
      refine yr_null 69 C dX8_meetFault_68 rfl ?_
      refine xx_put 72 C dX8_meetFault_69 fp_X8_56 (rx0 hR) (Nat.le_of_ble_eq_true rfl) rfl rfl (ru0_10 hR (-5) .null (by rw [xr_m5]; rfl)) rfl (fun h hR => ?_)
      refine yr_aload_n 73 C dX8_meetFault_72 rfl rfl rfl ?_
      refine yr_null 74 C dX8_meetFault_73 rfl ?_
      refine xx_put 77 C dX8_meetFault_74 fp_X8_69 (rx0 hR) (Nat.le_of_ble_eq_true rfl) rfl rfl (ru0_14 hR (-5) .null (by rw [xr_m5]; rfl)) rfl (fun h hR => ?_)
      refine yr_iconst 78 C (0) dX8_meetFault_77 rfl rfl ?_
      refine yr_istore3 79 C dX8_meetFault_78 (by decide) rfl ?_
      have loop79 : ∀ (j i : Nat) (V : yS), i + j = N 4 → mB V (N 0) (N 1) (N 2) (N 4) t → m_clrL j i V = m_clrL (N 4) 0 (mset (mset X 34 0 (-5)) 39 0 (-5)) → ∀ h : yH, RX dA t0 (V) (X 5) mc cap B N h → yW p l e (yR 4 0 0) s m args below meth c 5 D A 0 0 (yF D A (fun r h' => r = none ∧ RX dA t0 (m_meet S v (N 0) (N 4)) (m_meet S v (N 0) (N 4) 5) mc cap B N h') below args s 0 0) 79 [some (.ref (B 0 0)), some (.int v), some (.int (nI t)), some (.int (nI i)), none] [] h := by
        intro j
        induction j with
        | zero =>
          intro i V hij hV hf h hR
          have n0 : V 1 0 = nI (N 0) ∧ N 0 ≤ 8 := hV 0
          have n1 : V 17 0 = nI (N 1) ∧ N 1 ≤ 6 := hV 1
          have n4 : V 29 0 = nI (N 4) ∧ N 4 ≤ 6 := hV 2
          have k3 : V 0 0 = nI t ∧ t < 2 ^ 20 ∧ N 2 ≤ 12 := hV 3
          refine yr_forget4 ?_
          refine yr_iload_n 80 C dX8_meetFault_79 rfl rfl ?_
          refine yr_aload_n 81 C dX8_meetFault_80 rfl rfl rfl ?_
          refine yr_get 84 C dX8_meetFault_81 fl_X8_25 (rx0 hR) rfl rfl ?_
          refine yr_V0v 87 C (jl_size (show 4 < 5 by decide) _ hR) dX8_meetFault_84 mt_Jx4a65c_size_8abf5 mv_Jx4a65c_size_8abf5 ml_X8_75 (rx1 hR (show 4 < 5 by decide)) rfl (Nat.le_of_ble_eq_true rfl) (Nat.le_of_ble_eq_true rfl) (Nat.le_of_ble_eq_true rfl) (Nat.le_of_ble_eq_true rfl) (Nat.le_of_ble_eq_true rfl) rfl (fun h e => ?_)
          subst e
          refine yr_icmp_ge 110 90 C  dX8_meetFault_87 (by decide) rfl (fun c87 => ?_) (fun c87 => ?_)
          rotate_left
          · exact absurd (nI_le (by omega) (by omega)) c87
          refine yr_vret C dX8_meetFault_110 hr (Nat.le_of_ble_eq_true rfl) (Nat.le_of_ble_eq_true rfl) ?_
          have he2 : X = m_mfL (N 0) (N 0) 0 (x_mf1 S v (nI t)) := he
          have hf2 : V = m_clrL (N 4) 0 (mset (mset X 34 0 (-5)) 39 0 (-5)) := hf
          have hx := x_meet S v (N 0) (N 4)
          rw [k0] at hx
          rw [← he2, ← hf2] at hx
          have e5 : m_meet S v (N 0) (N 4) 5 = X 5 := by
            rw [hx 5 (by decide), hf2, m_clrL_rw _ _ _ 5 (by decide), mset_ne _ _ (by decide), mset_ne _ _ (by decide)]
          rw [e5]
          exact ⟨rfl, RX_ext hR hx⟩
        | succ j ih =>
          intro i V hij hV hf h hR
          have n0 : V 1 0 = nI (N 0) ∧ N 0 ≤ 8 := hV 0
          have n1 : V 17 0 = nI (N 1) ∧ N 1 ≤ 6 := hV 1
          have n4 : V 29 0 = nI (N 4) ∧ N 4 ≤ 6 := hV 2
          have k3 : V 0 0 = nI t ∧ t < 2 ^ 20 ∧ N 2 ≤ 12 := hV 3
          refine yr_forget4 ?_
          refine yr_iload_n 80 C dX8_meetFault_79 rfl rfl ?_
          refine yr_aload_n 81 C dX8_meetFault_80 rfl rfl rfl ?_
          refine yr_get 84 C dX8_meetFault_81 fl_X8_25 (rx0 hR) rfl rfl ?_
          refine yr_V0v 87 C (jl_size (show 4 < 5 by decide) _ hR) dX8_meetFault_84 mt_Jx4a65c_size_8abf5 mv_Jx4a65c_size_8abf5 ml_X8_75 (rx1 hR (show 4 < 5 by decide)) rfl (Nat.le_of_ble_eq_true rfl) (Nat.le_of_ble_eq_true rfl) (Nat.le_of_ble_eq_true rfl) (Nat.le_of_ble_eq_true rfl) (Nat.le_of_ble_eq_true rfl) rfl (fun h e => ?_)
          subst e
          refine yr_icmp_ge 110 90 C  dX8_meetFault_87 (by decide) rfl (fun c87 => ?_) (fun c87 => ?_)
          · exact absurd c87 (nI_ge (by omega) (by omega))
          refine yr_aload_n 91 C dX8_meetFault_90 rfl rfl rfl ?_
          refine yr_get 94 C dX8_meetFault_91 fl_X8_25 (rx0 hR) rfl rfl ?_
          refine yr_iload_n 95 C dX8_meetFault_94 rfl rfl ?_
          refine yr_V1v 98 C (jl_get (show 4 < 5 by decide) (j := i) (by omega) _ hR) dX8_meetFault_95 mt_Jx4a65c_get_915e3 mv_Jx4a65c_get_915e3 ml_X8_99 (rx1 hR (show 4 < 5 by decide)) rfl (Nat.le_of_ble_eq_true rfl) (Nat.le_of_ble_eq_true rfl) (Nat.le_of_ble_eq_true rfl) (Nat.le_of_ble_eq_true rfl) (Nat.le_of_ble_eq_true rfl) rfl (fun h e => ?_)
          subst e
          rw [show xkd 4 = 12 from rfl]
          refine yr_cast 101 C dX8_meetFault_98 (rx12 hR (by omega)) rfl cl_X8_161 rfl ?_
          refine yr_V0u 104 C (xc_beginAnew i (by omega) _ hR) dX8_meetFault_101 mt_X5_beginAnew mv_X5_beginAnew ml_X8_392 (rx12 hR (by omega)) rfl (Nat.le_of_ble_eq_true rfl) (Nat.le_of_ble_eq_true rfl) (Nat.le_of_ble_eq_true rfl) (Nat.le_of_ble_eq_true rfl) (Nat.le_of_ble_eq_true rfl) rfl (fun h hR => ?_)
          refine yr_iinc3 107 C (1) dX8_meetFault_104 rfl (by decide) rfl ?_
          rw [nI_1]
          refine yr_goto 79 C dX8_meetFault_107 (by decide) ?_
          exact ih (i + 1) _ (by omega) (mB_fr hV (mFr_set V i 0 (show mFk 33 = true from rfl))) hf h hR
      exact loop79 (N 4) 0 _ (by omega) (mB_fr hX (mFr_tr (mFr_set X 0 (-5) (show mFk 34 = true from rfl)) (mFr_set _ 0 (-5) (show mFk 39 = true from rfl)))) rfl h hR
    | succ j ih =>
      intro i X hij hX hGX he h hR
      have n0 : X 1 0 = nI (N 0) ∧ N 0 ≤ 8 := hX 0
      have n1 : X 17 0 = nI (N 1) ∧ N 1 ≤ 6 := hX 1
      have n4 : X 29 0 = nI (N 4) ∧ N 4 ≤ 6 := hX 2
      have k3 : X 0 0 = nI t ∧ t < 2 ^ 20 ∧ N 2 ≤ 12 := hX 3
      refine yr_iload_n 12 C dX8_meetFault_11 rfl rfl ?_
      refine yr_aload_n 13 C dX8_meetFault_12 rfl rfl rfl ?_
      refine yr_get 16 C dX8_meetFault_13 fl_X8_10 (rx0 hR) rfl rfl ?_
      refine yr_V0v 19 C (jl_size (show 0 < 5 by decide) _ hR) dX8_meetFault_16 mt_Jx4a65c_size_8abf5 mv_Jx4a65c_size_8abf5 ml_X8_75 (rx1 hR (show 0 < 5 by decide)) rfl (Nat.le_of_ble_eq_true rfl) (Nat.le_of_ble_eq_true rfl) (Nat.le_of_ble_eq_true rfl) (Nat.le_of_ble_eq_true rfl) (Nat.le_of_ble_eq_true rfl) rfl (fun h e => ?_)
      subst e
      refine yr_icmp_ge 67 22 C  dX8_meetFault_19 (by decide) rfl (fun c19 => ?_) (fun c19 => ?_)
      · exact absurd c19 (nI_ge (by omega) (by omega))
      refine yr_aload_n 23 C dX8_meetFault_22 rfl rfl rfl ?_
      refine yr_get 26 C dX8_meetFault_23 fl_X8_10 (rx0 hR) rfl rfl ?_
      refine yr_iload_n 27 C dX8_meetFault_26 rfl rfl ?_
      refine yr_V1v 30 C (jl_get (show 0 < 5 by decide) (j := i) (by omega) _ hR) dX8_meetFault_27 mt_Jx4a65c_get_915e3 mv_Jx4a65c_get_915e3 ml_X8_99 (rx1 hR (show 0 < 5 by decide)) rfl (Nat.le_of_ble_eq_true rfl) (Nat.le_of_ble_eq_true rfl) (Nat.le_of_ble_eq_true rfl) (Nat.le_of_ble_eq_true rfl) (Nat.le_of_ble_eq_true rfl) rfl (fun h e => ?_)
      subst e
      rw [show xkd 0 = 3 from rfl]
      refine yr_cast 33 C dX8_meetFault_30 (rx3 hR (by omega)) rfl cl_X8_79 rfl ?_
      refine yr_astore4 35 C dX8_meetFault_33 rfl (by decide) rfl ?_
      refine yr_aload 37 C dX8_meetFault_35 rfl rfl rfl ?_
      refine yr_V0v 40 C (xc_isLit i (by omega) _ hR) dX8_meetFault_37 mt_X6_isLit mv_X6_isLit ml_X8_383 (rx3 hR (by omega)) rfl (Nat.le_of_ble_eq_true rfl) (Nat.le_of_ble_eq_true rfl) (Nat.le_of_ble_eq_true rfl) (Nat.le_of_ble_eq_true rfl) (Nat.le_of_ble_eq_true rfl) rfl (fun h hR => ?_)
      refine yb_ne 46 43 C  dX8_meetFault_40 (by decide) rfl (fun c40 => ?_) (fun c40 => ?_)
      · refine yr_aload_n 47 C dX8_meetFault_46 rfl rfl rfl ?_
        refine yr_aload 49 C dX8_meetFault_47 rfl rfl rfl ?_
        refine yr_iconst 50 C (0) dX8_meetFault_49 rfl rfl ?_
        refine yr_iload_n 51 C dX8_meetFault_50 rfl rfl ?_
        refine yr_V3u 54 C (xc_changeLight i (by omega) 0 rfl (hGX i (by omega)) hX _ hR) dX8_meetFault_51 mt_X8_changeLight mv_X8_changeLight ml_X8_356 (rx0 hR) rfl (Nat.le_of_ble_eq_true rfl) (Nat.le_of_ble_eq_true rfl) (Nat.le_of_ble_eq_true rfl) (Nat.le_of_ble_eq_true rfl) (Nat.le_of_ble_eq_true rfl) rfl (fun h hR => ?_)
        refine yr_aload_n 55 C dX8_meetFault_54 rfl rfl rfl ?_
        refine yr_aload 57 C dX8_meetFault_55 rfl rfl rfl ?_
        refine yr_iload_n 58 C dX8_meetFault_57 rfl rfl ?_
        refine yr_V2u 61 C (xc_setEnd i (by omega) _ (mB_fr hX (m_change_fr X i 0)) _ hR) dX8_meetFault_58 mt_X8_setEnd mv_X8_setEnd ml_X8_360 (rx0 hR) rfl (Nat.le_of_ble_eq_true rfl) (Nat.le_of_ble_eq_true rfl) (Nat.le_of_ble_eq_true rfl) (Nat.le_of_ble_eq_true rfl) (Nat.le_of_ble_eq_true rfl) rfl (fun h hR => ?_)
        refine yr_iinc3 64 C (1) dX8_meetFault_61 rfl (by decide) rfl ?_
        rw [nI_1]
        refine yr_goto 11 C dX8_meetFault_64 (by decide) ?_
        have c41 : X 3 i = 1 ∨ X 3 i = 2 := by simpa using c40
        have hq : m_mfS (N 0) X i = m_endsIn (m_change X i 0) (N 0) i (nI t) := by
          unfold m_mfS
          rw [if_pos c41, m_change_rw X i 0 0 (by decide), k3.1]
        refine yr_forget4 ?_
        exact ih (i + 1) (m_mfS (N 0) X i) (by omega) (mB_fr hX (mFr_rw (m_mfS_rw (N 0) X i) rfl)) (mG_mfS hGX) he h (by rw [hq]; rw [m_endsIn_rw _ _ _ _ 5 (by decide)]; exact hR)
      · refine yr_goto 61 C dX8_meetFault_43 (by decide) ?_
        refine yr_iinc3 64 C (1) dX8_meetFault_61 rfl (by decide) rfl ?_
        rw [nI_1]
        refine yr_goto 11 C dX8_meetFault_64 (by decide) ?_
        have c41 : ¬ (X 3 i = 1 ∨ X 3 i = 2) := by simpa using c40
        have hq : m_mfS (N 0) X i = X := by unfold m_mfS; rw [if_neg c41]
        refine yr_forget4 ?_
        exact ih (i + 1) (m_mfS (N 0) X i) (by omega) (mB_fr hX (mFr_rw (m_mfS_rw (N 0) X i) rfl)) (mG_mfS hGX) he h (by rw [hq]; exact hR)
  exact loop11 (N 0) 0 _ (by omega) (mB_fr hB hfr) (mG_row hG g3) rfl h hR
set_option maxHeartbeats 4000000 in
set_option maxRecDepth 100000 in
theorem xc_flashIfDue (hlf : lf = S 5) (hG : mG S (N 0) t) (h26 : S 44 0 = 0 ∨ (S 44 0 = 1 ∧ ∃ u, S 42 0 = nI u ∧ u < t ∧ t ≤ u + 3) ∨ (S 44 0 = 2 ∧ ∃ u, S 42 0 = nI u ∧ u + 3 < t)) (h44 : ¬ S 44 0 = 0) (hB : mB S (N 0) (N 1) (N 2) (N 4) t) (h : yH) (hR : RX dA t0 (S) lf mc cap B N h) : yM (yZ t0 mi D dA) D yX8_flashIfDue cX8_flashIfDue 2 none 5 0 0 [.ref (B 0 0), .int (nI t)] h (fun r h' => r = none ∧ RX dA t0 (m_flash S (N 0)) (m_flash S (N 0) 5) mc cap B N h') := by
  refine yM_of (yZ_ok t0 mi D dA) (by decide) rfl (Nat.le_of_ble_eq_true rfl) ?_
  intro p l e s m args below meth c A C hr hin
  show yW p l e (yR 5 0 0) s m args below meth c 2 D A 0 0 _ 0 [some (.ref (B 0 0)), some (.int (nI t))] [] h
  subst hlf
  have n0 : S 1 0 = nI (N 0) ∧ N 0 ≤ 8 := hB 0
  have n1 : S 17 0 = nI (N 1) ∧ N 1 ≤ 6 := hB 1
  have n4 : S 29 0 = nI (N 4) ∧ N 4 ≤ 6 := hB 2
  have k3 : S 0 0 = nI t ∧ t < 2 ^ 20 ∧ N 2 ≤ 12 := hB 3
  have h26b : S 44 0 = 1 ∧ (∃ u, S 42 0 = nI u ∧ u < t ∧ t ≤ u + 3) ∨ (S 44 0 = 2 ∧ ∃ u, S 42 0 = nI u ∧ u + 3 < t) := by
    rcases h26 with e | e | e
    · exact absurd e h44
    · exact Or.inl e
    · exact Or.inr e
  refine yr_aload_n 1 C dX8_flashIfDue_0 rfl rfl rfl ?_
  refine yr_get 4 C dX8_flashIfDue_1 fl_X8_38 (rx0 hR) rfl rfl ?_
  refine yr_get 7 C dX8_flashIfDue_4 fl_X8_179 (rx15 hR) rfl rfl ?_
  refine yr_iconst 8 C (1) dX8_flashIfDue_7 rfl rfl ?_
  refine yr_icmp_ne 24 11 C  dX8_flashIfDue_8 (by decide) rfl (fun c8 => ?_) (fun c8 => ?_)
  · refine yr_vret C dX8_flashIfDue_24 hr (Nat.le_of_ble_eq_true rfl) (Nat.le_of_ble_eq_true rfl) ?_
    have em : m_flash S (N 0) = S := by
      rcases h26b with ⟨e, _⟩ | ⟨_, u, e, hu⟩
      · exact absurd e c8
      · unfold m_flash
        rw [k3.1, e, show nI u + 3 = nI (u + 3) from nI_add _ _, if_neg (fun z => by have := (nI_eq (by omega) (by omega)).mp z; omega)]
    rw [em]
    exact ⟨rfl, hR⟩
  · refine yr_iload_n 12 C dX8_flashIfDue_11 rfl rfl ?_
    refine yr_aload_n 13 C dX8_flashIfDue_12 rfl rfl rfl ?_
    refine yr_get 16 C dX8_flashIfDue_13 fl_X8_38 (rx0 hR) rfl rfl ?_
    refine yr_get 19 C dX8_flashIfDue_16 fl_X8_272 (rx15 hR) rfl rfl ?_
    refine yr_isub 20 C dX8_flashIfDue_19 rfl ?_
    refine yr_iconst 21 C (3) dX8_flashIfDue_20 rfl rfl ?_
    refine yr_icmp_ge 25 24 C  dX8_flashIfDue_21 (by decide) rfl (fun c21 => ?_) (fun c21 => ?_)
    · refine yr_aload_n 26 C dX8_flashIfDue_25 rfl rfl rfl ?_
      refine yr_iconst 27 C (3) dX8_flashIfDue_26 rfl rfl ?_
      refine yr_V1u 30 C (xc_changeAllLights 3 (by decide) rfl hG hB _ hR) dX8_flashIfDue_27 mt_X8_changeAllLights mv_X8_changeAllLights ml_X8_200 (rx0 hR) rfl (Nat.le_of_ble_eq_true rfl) (Nat.le_of_ble_eq_true rfl) (Nat.le_of_ble_eq_true rfl) (Nat.le_of_ble_eq_true rfl) (Nat.le_of_ble_eq_true rfl) rfl (fun h hR => ?_)
      refine yr_aload_n 31 C dX8_flashIfDue_30 rfl rfl rfl ?_
      refine yr_get 34 C dX8_flashIfDue_31 fl_X8_38 (rx0 hR) rfl rfl ?_
      refine yr_iconst 35 C (2) dX8_flashIfDue_34 rfl rfl ?_
      refine xx_put 38 C dX8_flashIfDue_35 fp_X8_179 (rx15 hR) (Nat.le_of_ble_eq_true rfl) rfl rfl (ru15_3 hR _) rfl (fun h hR => ?_)
      refine yr_vret C dX8_flashIfDue_38 hr (Nat.le_of_ble_eq_true rfl) (Nat.le_of_ble_eq_true rfl) ?_
      have em : m_flash S (N 0) = mset (m_allL 3 (N 0) 0 S) 44 0 2 := by
        rcases h26b with ⟨_, u, e, hu, hu2⟩ | ⟨e, _⟩
        · unfold m_flash
          rw [e, pk_sub (by omega)] at c21
          have c22 : 3 ≤ t - u := (nI_leI (a := 3) (by omega) (by omega)).mp c21
          rw [k3.1, e, show nI u + 3 = nI (u + 3) from nI_add _ _, if_pos (by rw [show t = u + 3 by omega]), allL_44]
        · rw [c8] at e
          exact absurd e (by decide)
      rw [em, mset_ne _ _ (show (5 : Nat) ≠ 44 by decide)]
      exact ⟨rfl, hR⟩
    · refine yr_vret C dX8_flashIfDue_24 hr (Nat.le_of_ble_eq_true rfl) (Nat.le_of_ble_eq_true rfl) ?_
      have em : m_flash S (N 0) = S := by
        rcases h26b with ⟨_, u, e, hu, hu2⟩ | ⟨e, _⟩
        · unfold m_flash
          rw [e, pk_sub (by omega)] at c21
          have c22 : ¬ 3 ≤ t - u := fun z => c21 (nI_le z (by omega))
          rw [k3.1, e, show nI u + 3 = nI (u + 3) from nI_add _ _, if_neg (fun z => by have := (nI_eq (by omega) (by omega)).mp z; omega)]
        · rw [c8] at e
          exact absurd e (by decide)
      rw [em]
      exact ⟨rfl, hR⟩
end X12
