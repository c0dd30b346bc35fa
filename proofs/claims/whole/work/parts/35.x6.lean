theorem cO_iff {x : Int32} {b : Nat} (hb : b ≤ 2 ^ 30) (h : cO x b) : x < 0 ↔ x = -5 := by
  constructor
  · exact cO_neg hb h
  · intro e
    rw [e]
    decide
theorem m_in_not {j n : Nat} (hn : n < 2 ^ 30) (hj : j < 2 ^ 31) (h : n ≤ j) : m_in (nI j) 0 (nI n - 1) = false := by
  cases hc : m_in (nI j) 0 (nI n - 1) with
  | false => rfl
  | true =>
    obtain ⟨k, hk, e⟩ := m_in_ix hn hc
    have := (nI_eq hj (by omega)).mp e
    omega
theorem m_in_neg {q : Int32} {u : Int32} (h : q < 0) : m_in q 0 u = false := by simp [m_in, h]
section X6
variable {D : va_G} {dA : Nat → ClassId} {t0 mi : Nat} {S : yS} {lf mc : Nat → Int32} {cap : Nat → Nat} {B : Nat → Nat → Nat} {N : Nat → Nat}
variable {nd nr t : Nat}
set_option maxHeartbeats 4000000 in
set_option maxRecDepth 100000 in
theorem xc_firstAsked (g : Nat) (hg : g < N 1) (hB : mB S (N 0) (N 1) nd nr t) (ha : ∀ p, p < N 0 → cO (S 10 p) (t + 1)) (h : yH) (hR : RX dA t0 (S) lf mc cap B N h) : yM (yZ t0 mi D dA) D yX7_firstAsked cX7_firstAsked 6 (some .int) 1 0 0 [.ref (B 6 g)] h (fun r h' => r = some (.int (m_asked S g)) ∧ RX dA t0 (S) lf mc cap B N h') := by
  refine yM_of (yZ_ok t0 mi D dA) (by decide) rfl (Nat.le_of_ble_eq_true rfl) ?_
  intro p l e s m args below meth c A C hr hin
  show yW p l e (yR 1 0 0) s m args below meth c 6 D A 0 0 _ 0 [some (.ref (B 6 g)), none, none, none, none, none] [] h
  have n0 : N 0 ≤ 8 := (show S 1 0 = nI (N 0) ∧ N 0 ≤ 8 from hB 0).2
  have n1 : N 1 ≤ 6 := (show S 17 0 = nI (N 1) ∧ N 1 ≤ 6 from hB 1).2
  have k3 : S 0 0 = nI t ∧ t < 2 ^ 20 ∧ nd ≤ 12 := hB 3
  refine yr_bipush 2 C (-5) dX7_firstAsked_0 rfl rfl ?_
  refine yr_istore1 3 C dX7_firstAsked_2 (by decide) rfl ?_
  refine yr_aload_n 4 C dX7_firstAsked_3 rfl rfl rfl ?_
  refine yr_get 7 C dX7_firstAsked_4 fl_X7_11 (rx6 hR hg) rfl rfl ?_
  refine yr_astore2 8 C dX7_firstAsked_7 rfl (by decide) rfl ?_
  refine yr_aload_n 9 C dX7_firstAsked_8 rfl rfl rfl ?_
  refine yr_alen 10 4 C (4) dX7_firstAsked_9 (rx7 hR hg) rfl rfl rfl ?_
  refine yr_istore3 11 C dX7_firstAsked_10 (by decide) rfl ?_
  refine yr_iconst 12 C (0) dX7_firstAsked_11 rfl rfl ?_
  refine yr_istore4 14 C dX7_firstAsked_12 (by decide) rfl ?_
  have loop14 : ∀ (j i : Nat) (x : Int32), i + j = 4 → cO x (t + 1) → m_askL S g j i x = m_asked S g → ∀ h : yH, RX dA t0 (S) lf mc cap B N h → yW p l e (yR 1 0 0) s m args below meth c 6 D A 0 0 (yF D A (fun r h' => r = some (.int (m_asked S g)) ∧ RX dA t0 (S) lf mc cap B N h') below args s 0 0) 14 [some (.ref (B 6 g)), some (.int x), some (.ref (B 7 g)), some (.int 4), some (.int (nI i)), none] [] h := by
    intro j
    induction j with
    | zero =>
      intro i x hij hx he h hR
      obtain rfl : i = 4 := by omega
      refine yr_iload 16 C dX7_firstAsked_14 rfl rfl ?_
      refine yr_iload_n 17 C dX7_firstAsked_16 rfl rfl ?_
      refine yr_icmp_ge 69 20 C  dX7_firstAsked_17 (by decide) rfl (fun c17 => ?_) (fun c17 => ?_)
      rotate_left
      · exact absurd (by decide) c17
      refine yr_iload_n 70 C dX7_firstAsked_69 rfl rfl ?_
      refine yr_iret C dX7_firstAsked_70 hr (Nat.le_of_ble_eq_true rfl) (Nat.le_of_ble_eq_true rfl) ?_
      refine ⟨?_, hR⟩
      rw [← he]
      rfl
    | succ j ih =>
      intro i x hij hx he h hR
      have q7 : cO (S 18 (4 * g + i)) (N 0) := (show ∀ s, s < N 1 → ∀ k, k < 4 → cO (S 18 (4 * s + k)) (N 0) from hB 7) g hg i (by omega)
      refine yr_iload 16 C dX7_firstAsked_14 rfl rfl ?_
      refine yr_iload_n 17 C dX7_firstAsked_16 rfl rfl ?_
      refine yr_icmp_ge 69 20 C  dX7_firstAsked_17 (by decide) rfl (fun c17 => ?_) (fun c17 => ?_)
      · exact absurd c17 (nI_ge (b := 4) (by omega) (by decide))
      refine yr_aload_n 21 C dX7_firstAsked_20 rfl rfl rfl ?_
      refine yr_iload 23 C dX7_firstAsked_21 rfl rfl ?_
      refine xx_place 24 C hR hg (by omega) n0 q7 dX7_firstAsked_23 rfl (fun en => ?_) (fun z hz ez => ?_)
      · refine yr_astore5 26 C dX7_firstAsked_24 rfl (by decide) rfl ?_
        refine yr_aload 28 C dX7_firstAsked_26 rfl rfl rfl ?_
        refine yr_ifnull_n 63 C dX7_firstAsked_28 (by decide) ?_
        refine yr_iinc4 66 C (1) dX7_firstAsked_63 rfl (by decide) rfl ?_
        rw [nI_1]
        refine yr_goto 14 C dX7_firstAsked_66 (by decide) ?_
        refine yr_forget5 ?_
        exact ih (i + 1) _ (by omega) hx (by rw [← he]; simp [m_askL, m_askS, en]) h hR
      · refine yr_astore5 26 C dX7_firstAsked_24 rfl (by decide) rfl ?_
        refine yr_aload 28 C dX7_firstAsked_26 rfl rfl rfl ?_
        refine yr_ifnull_r 31 C dX7_firstAsked_28 rfl ?_
        refine yr_aload 33 C dX7_firstAsked_31 rfl rfl rfl ?_
        refine yr_V0v 36 C (xc_isAsked _ hz _ hR) dX7_firstAsked_33 mt_X6_isAsked mv_X6_isAsked ml_X7_48 (rx3 hR hz) rfl (Nat.le_of_ble_eq_true rfl) (Nat.le_of_ble_eq_true rfl) (Nat.le_of_ble_eq_true rfl) (Nat.le_of_ble_eq_true rfl) (Nat.le_of_ble_eq_true rfl) rfl (fun h hR => ?_)
        refine yb_ne 42 39 C  dX7_firstAsked_36 (by decide) rfl (fun c36 => ?_) (fun c36 => ?_)
        · refine yr_iload_n 43 C dX7_firstAsked_42 rfl rfl ?_
          refine yr_bipush 45 C (-5) dX7_firstAsked_43 rfl rfl ?_
          refine yr_icmp_eq 57 48 C  dX7_firstAsked_45 (by decide) rfl (fun c45 => ?_) (fun c45 => ?_)
          · refine yr_aload 59 C dX7_firstAsked_57 rfl rfl rfl ?_
            refine yr_get 62 C dX7_firstAsked_59 fl_X7_52 (rx3 hR hz) rfl rfl ?_
            refine yr_istore1 63 C dX7_firstAsked_62 (by decide) rfl ?_
            refine yr_iinc4 66 C (1) dX7_firstAsked_63 rfl (by decide) rfl ?_
            rw [nI_1]
            refine yr_goto 14 C dX7_firstAsked_66 (by decide) ?_
            have i1 := cO_iff (by omega) (ha z hz)
            have i2 := cO_iff (by omega) hx
            have hzp : ¬ nI z < 0 := nI_pos (by omega)
            have a1 : ¬ S 10 z < 0 := fun q => by simp [i1.mp q] at c36
            have em : m_askS S (S 18 (4 * g + i)) x = S 10 z := by unfold m_askS; rw [ez, if_neg hzp, ix_nI (by omega), if_neg a1, if_pos (i2.mpr c45)]
            refine yr_forget5 ?_
            exact ih (i + 1) _ (by omega) (ha z hz) (by rw [← he]; show _ = m_askL S g j (i + 1) (m_askS S (S 18 (4 * g + i)) x); rw [em]) h hR
          · refine yr_aload 50 C dX7_firstAsked_48 rfl rfl rfl ?_
            refine yr_get 53 C dX7_firstAsked_50 fl_X7_52 (rx3 hR hz) rfl rfl ?_
            refine yr_iload_n 54 C dX7_firstAsked_53 rfl rfl ?_
            refine yr_icmp_ge 63 57 C  dX7_firstAsked_54 (by decide) rfl (fun c54 => ?_) (fun c54 => ?_)
            · refine yr_iinc4 66 C (1) dX7_firstAsked_63 rfl (by decide) rfl ?_
              rw [nI_1]
              refine yr_goto 14 C dX7_firstAsked_66 (by decide) ?_
              have i1 := cO_iff (by omega) (ha z hz)
              have i2 := cO_iff (by omega) hx
              have hzp : ¬ nI z < 0 := nI_pos (by omega)
              have a1 : ¬ S 10 z < 0 := fun q => by simp [i1.mp q] at c36
              have em : m_askS S (S 18 (4 * g + i)) x = x := by unfold m_askS; rw [ez, if_neg hzp, ix_nI (by omega), if_neg a1, if_neg (fun q => c45 (i2.mp q)), if_pos c54]
              refine yr_forget5 ?_
              exact ih (i + 1) _ (by omega) hx (by rw [← he]; show _ = m_askL S g j (i + 1) (m_askS S (S 18 (4 * g + i)) x); rw [em]) h hR
            · refine yr_aload 59 C dX7_firstAsked_57 rfl rfl rfl ?_
              refine yr_get 62 C dX7_firstAsked_59 fl_X7_52 (rx3 hR hz) rfl rfl ?_
              refine yr_istore1 63 C dX7_firstAsked_62 (by decide) rfl ?_
              refine yr_iinc4 66 C (1) dX7_firstAsked_63 rfl (by decide) rfl ?_
              rw [nI_1]
              refine yr_goto 14 C dX7_firstAsked_66 (by decide) ?_
              have i1 := cO_iff (by omega) (ha z hz)
              have i2 := cO_iff (by omega) hx
              have hzp : ¬ nI z < 0 := nI_pos (by omega)
              have a1 : ¬ S 10 z < 0 := fun q => by simp [i1.mp q] at c36
              have em : m_askS S (S 18 (4 * g + i)) x = S 10 z := by unfold m_askS; rw [ez, if_neg hzp, ix_nI (by omega), if_neg a1, if_neg (fun q => c45 (i2.mp q)), if_neg c54]
              refine yr_forget5 ?_
              exact ih (i + 1) _ (by omega) (ha z hz) (by rw [← he]; show _ = m_askL S g j (i + 1) (m_askS S (S 18 (4 * g + i)) x); rw [em]) h hR
        · refine yr_goto 63 C dX7_firstAsked_39 (by decide) ?_
          refine yr_iinc4 66 C (1) dX7_firstAsked_63 rfl (by decide) rfl ?_
          rw [nI_1]
          refine yr_goto 14 C dX7_firstAsked_66 (by decide) ?_
          have i1 := cO_iff (by omega) (ha z hz)
          have i2 := cO_iff (by omega) hx
          have hzp : ¬ nI z < 0 := nI_pos (by omega)
          have a1 : S 10 z = -5 := by simpa using c36
          have em : m_askS S (S 18 (4 * g + i)) x = x := by unfold m_askS; rw [ez, if_neg hzp, ix_nI (by omega), if_pos (i1.mpr a1)]
          refine yr_forget5 ?_
          exact ih (i + 1) _ (by omega) hx (by rw [← he]; show _ = m_askL S g j (i + 1) (m_askS S (S 18 (4 * g + i)) x); rw [em]) h hR
  exact loop14 4 0 (-5) rfl (Or.inl rfl) rfl h hR
set_option maxHeartbeats 4000000 in
set_option maxRecDepth 100000 in
theorem xc_mayBeGreen (g : Nat) (hg : g < N 1) (hB : mB S (N 0) (N 1) nd nr t) (h : yH) (hR : RX dA t0 (S) lf mc cap B N h) : yM (yZ t0 mi D dA) D yX7_mayBeGreen cX7_mayBeGreen 6 (some .boolean) 0 0 0 [.ref (B 6 g), .int (S 0 0)] h (fun r h' => r = some (.int (bI (m_mayL S g 4 0))) ∧ RX dA t0 (S) lf mc cap B N h') := by
  refine yM_of (yZ_ok t0 mi D dA) (by decide) rfl (Nat.le_of_ble_eq_true rfl) ?_
  intro p l e s m args below meth c A C hr hin
  show yW p l e (yR 0 0 0) s m args below meth c 6 D A 0 0 _ 0 [some (.ref (B 6 g)), some (.int (S 0 0)), none, none, none, none] [] h
  have n0 : N 0 ≤ 8 := (show S 1 0 = nI (N 0) ∧ N 0 ≤ 8 from hB 0).2
  have n1 : N 1 ≤ 6 := (show S 17 0 = nI (N 1) ∧ N 1 ≤ 6 from hB 1).2
  refine yr_aload_n 1 C dX7_mayBeGreen_0 rfl rfl rfl ?_
  refine yr_get 4 C dX7_mayBeGreen_1 fl_X7_11 (rx6 hR hg) rfl rfl ?_
  refine yr_astore2 5 C dX7_mayBeGreen_4 rfl (by decide) rfl ?_
  refine yr_aload_n 6 C dX7_mayBeGreen_5 rfl rfl rfl ?_
  refine yr_alen 7 4 C (4) dX7_mayBeGreen_6 (rx7 hR hg) rfl rfl rfl ?_
  refine yr_istore3 8 C dX7_mayBeGreen_7 (by decide) rfl ?_
  refine yr_iconst 9 C (0) dX7_mayBeGreen_8 rfl rfl ?_
  refine yr_istore4 11 C dX7_mayBeGreen_9 (by decide) rfl ?_
  have loop11 : ∀ (j i : Nat) , i + j = 4 → m_mayL S g j i = m_mayL S g 4 0 → ∀ h : yH, RX dA t0 (S) lf mc cap B N h → yW p l e (yR 0 0 0) s m args below meth c 6 D A 0 0 (yF D A (fun r h' => r = some (.int (bI (m_mayL S g 4 0))) ∧ RX dA t0 (S) lf mc cap B N h') below args s 0 0) 11 [some (.ref (B 6 g)), some (.int (S 0 0)), some (.ref (B 7 g)), some (.int 4), some (.int (nI i)), none] [] h := by
    intro j
    induction j with
    | zero =>
      intro i  hij he h hR
      obtain rfl : i = 4 := by omega
      refine yr_iload 13 C dX7_mayBeGreen_11 rfl rfl ?_
      refine yr_iload_n 14 C dX7_mayBeGreen_13 rfl rfl ?_
      refine yr_icmp_ge 53 17 C  dX7_mayBeGreen_14 (by decide) rfl (fun c14 => ?_) (fun c14 => ?_)
      rotate_left
      · exact absurd (by decide) c14
      refine yr_iconst 54 C (1) dX7_mayBeGreen_53 rfl rfl ?_
      refine yr_zret C dX7_mayBeGreen_54 hr ?_ (Nat.le_of_ble_eq_true rfl) (Nat.le_of_ble_eq_true rfl) ?_
      · first | exact bI_or _ | exact Or.inl rfl | exact Or.inr rfl
      refine ⟨?_, hR⟩
      rw [← he]
      rfl
    | succ j ih =>
      intro i  hij he h hR
      have q7 : cO (S 18 (4 * g + i)) (N 0) := (show ∀ s, s < N 1 → ∀ k, k < 4 → cO (S 18 (4 * s + k)) (N 0) from hB 7) g hg i (by omega)
      refine yr_iload 13 C dX7_mayBeGreen_11 rfl rfl ?_
      refine yr_iload_n 14 C dX7_mayBeGreen_13 rfl rfl ?_
      refine yr_icmp_ge 53 17 C  dX7_mayBeGreen_14 (by decide) rfl (fun c14 => ?_) (fun c14 => ?_)
      · exact absurd c14 (nI_ge (b := 4) (by omega) (by decide))
      refine yr_aload_n 18 C dX7_mayBeGreen_17 rfl rfl rfl ?_
      refine yr_iload 20 C dX7_mayBeGreen_18 rfl rfl ?_
      refine xx_place 21 C hR hg (by omega) n0 q7 dX7_mayBeGreen_20 rfl (fun en => ?_) (fun z hz ez => ?_)
      · refine yr_astore5 23 C dX7_mayBeGreen_21 rfl (by decide) rfl ?_
        refine yr_aload 25 C dX7_mayBeGreen_23 rfl rfl rfl ?_
        refine yr_ifnull_n 47 C dX7_mayBeGreen_25 (by decide) ?_
        refine yr_iinc4 50 C (1) dX7_mayBeGreen_47 rfl (by decide) rfl ?_
        rw [nI_1]
        refine yr_goto 11 C dX7_mayBeGreen_50 (by decide) ?_
        refine yr_forget5 ?_
        exact ih (i + 1) (by omega) (by rw [← he]; simp [m_mayL, en]) h hR
      · refine yr_astore5 23 C dX7_mayBeGreen_21 rfl (by decide) rfl ?_
        refine yr_aload 25 C dX7_mayBeGreen_23 rfl rfl rfl ?_
        refine yr_ifnull_r 28 C dX7_mayBeGreen_25 rfl ?_
        refine yr_aload 30 C dX7_mayBeGreen_28 rfl rfl rfl ?_
        refine yr_get 33 C dX7_mayBeGreen_30 fl_X7_55 (rx3 hR hz) rfl rfl ?_
        refine yr_if_ne 45 36 C  dX7_mayBeGreen_33 (by decide) rfl (fun c33 => ?_) (fun c33 => ?_)
        · refine yr_iconst 46 C (0) dX7_mayBeGreen_45 rfl rfl ?_
          refine yr_zret C dX7_mayBeGreen_46 hr ?_ (Nat.le_of_ble_eq_true rfl) (Nat.le_of_ble_eq_true rfl) ?_
          · first | exact bI_or _ | exact Or.inl rfl | exact Or.inr rfl
          refine ⟨?_, hR⟩
          rw [← he]
          simp [m_mayL, ez, ix_nI (show z < 2 ^ 31 by omega), nI_pos (show z < 2 ^ 31 by omega), bI, ez, c33]
        · refine yr_aload 38 C dX7_mayBeGreen_36 rfl rfl rfl ?_
          refine yr_get 41 C dX7_mayBeGreen_38 fl_X7_58 (rx3 hR hz) rfl rfl ?_
          refine yr_iload_n 42 C dX7_mayBeGreen_41 rfl rfl ?_
          refine yr_icmp_le 47 45 C  dX7_mayBeGreen_42 (by decide) rfl (fun c42 => ?_) (fun c42 => ?_)
          · refine yr_iinc4 50 C (1) dX7_mayBeGreen_47 rfl (by decide) rfl ?_
            rw [nI_1]
            refine yr_goto 11 C dX7_mayBeGreen_50 (by decide) ?_
            refine yr_forget5 ?_
            exact ih (i + 1) (by omega) (by rw [← he]; simp [m_mayL, ez, ix_nI (show z < 2 ^ 31 by omega), nI_pos (show z < 2 ^ 31 by omega), c33, c42]) h hR
          · refine yr_iconst 46 C (0) dX7_mayBeGreen_45 rfl rfl ?_
            refine yr_zret C dX7_mayBeGreen_46 hr ?_ (Nat.le_of_ble_eq_true rfl) (Nat.le_of_ble_eq_true rfl) ?_
            · first | exact bI_or _ | exact Or.inl rfl | exact Or.inr rfl
            refine ⟨?_, hR⟩
            rw [← he]
            simp [m_mayL, ez, ix_nI (show z < 2 ^ 31 by omega), nI_pos (show z < 2 ^ 31 by omega), bI, ez, c33, c42]
  exact loop11 4 0 rfl rfl h hR
set_option maxHeartbeats 4000000 in
set_option maxRecDepth 100000 in
theorem xc_keepLight (z y : Nat) (hz : z < N 0) (h8 : N 0 ≤ 8) (hy : y < 2 ^ 20)  (h : yH) (hR : RX dA t0 (S) lf mc cap B N h) : yM (yZ t0 mi D dA) D yX6_keepLight cX6_keepLight 2 none 1 0 0 [.ref (B 3 z), .int (nI y)] h (fun r h' => r = none ∧ RX dA t0 (mset S 51 (8 * (y % 61) + z) (S 3 z)) lf mc cap B N h') := by
  refine yM_of (yZ_ok t0 mi D dA) (by decide) rfl (Nat.le_of_ble_eq_true rfl) ?_
  intro p l e s m args below meth c A C hr hin
  show yW p l e (yR 1 0 0) s m args below meth c 2 D A 0 0 _ 0 [some (.ref (B 3 z)), some (.int (nI y))] [] h
  refine yr_aload_n 1 C dX6_keepLight_0 rfl rfl rfl ?_
  refine yr_get 4 C dX6_keepLight_1 fl_X6_15 (rx3 hR hz) rfl rfl ?_
  refine yr_iload_n 5 C dX6_keepLight_4 rfl rfl ?_
  refine yr_bipush 7 C (61) dX6_keepLight_5 rfl rfl ?_
  refine yr_S2v 10 C (jc_fm _ _ (by decide) _) dX6_keepLight_7 mt_J9_floorMod_7cf53 ms_J9_floorMod_7cf53 ml_X6_75 (Nat.le_of_ble_eq_true rfl) (Nat.le_of_ble_eq_true rfl) (Nat.le_of_ble_eq_true rfl) (Nat.le_of_ble_eq_true rfl) (Nat.le_of_ble_eq_true rfl) rfl (fun h e => ?_)
  subst e
  rw [jfm_61 (show y < 2 ^ 31 by omega)]
  refine yr_aload_n 11 C dX6_keepLight_10 rfl rfl rfl ?_
  refine yr_get 14 C dX6_keepLight_11 fl_X6_26 (rx3 hR hz) rfl rfl ?_
  refine xx_iast 15 C dX6_keepLight_14 (rx5 hR hz) ?_ (by decide) (ru5 hR hz h8 (Nat.mod_lt _ (by decide)) _) rfl (fun h hR => ?_)
  · exact Nat.mod_lt _ (by decide)
  refine yr_vret C dX6_keepLight_15 hr (Nat.le_of_ble_eq_true rfl) (Nat.le_of_ble_eq_true rfl) ?_
  exact ⟨rfl, hR⟩
set_option maxHeartbeats 4000000 in
set_option maxRecDepth 100000 in
theorem xc_lightBehind (z y : Nat) (hz : z < N 0) (hy : y < 2 ^ 20)  (h : yH) (hR : RX dA t0 (S) lf mc cap B N h) : yM (yZ t0 mi D dA) D yX6_lightBehind cX6_lightBehind 2 (some .int) 1 0 0 [.ref (B 3 z), .int (nI y)] h (fun r h' => r = some (.int (S 51 (8 * (y % 61) + z))) ∧ RX dA t0 (S) lf mc cap B N h') := by
  refine yM_of (yZ_ok t0 mi D dA) (by decide) rfl (Nat.le_of_ble_eq_true rfl) ?_
  intro p l e s m args below meth c A C hr hin
  show yW p l e (yR 1 0 0) s m args below meth c 2 D A 0 0 _ 0 [some (.ref (B 3 z)), some (.int (nI y))] [] h
  refine yr_aload_n 1 C dX6_lightBehind_0 rfl rfl rfl ?_
  refine yr_get 4 C dX6_lightBehind_1 fl_X6_15 (rx3 hR hz) rfl rfl ?_
  refine yr_iload_n 5 C dX6_lightBehind_4 rfl rfl ?_
  refine yr_bipush 7 C (61) dX6_lightBehind_5 rfl rfl ?_
  refine yr_S2v 10 C (jc_fm _ _ (by decide) _) dX6_lightBehind_7 mt_J9_floorMod_7cf53 ms_J9_floorMod_7cf53 ml_X6_75 (Nat.le_of_ble_eq_true rfl) (Nat.le_of_ble_eq_true rfl) (Nat.le_of_ble_eq_true rfl) (Nat.le_of_ble_eq_true rfl) (Nat.le_of_ble_eq_true rfl) rfl (fun h e => ?_)
  subst e
  rw [jfm_61 (show y < 2 ^ 31 by omega)]
  refine xx_iald 11 C (S 51 (8 * (y % 61) + z)) dX6_lightBehind_10 (rx5 hR hz) ?_ (by decide) (if_pos (Nat.mod_lt _ (by decide))) rfl ?_
  · exact Nat.mod_lt _ (by decide)
  refine yr_iret C dX6_lightBehind_11 hr (Nat.le_of_ble_eq_true rfl) (Nat.le_of_ble_eq_true rfl) ?_
  exact ⟨rfl, hR⟩
set_option maxHeartbeats 4000000 in
set_option maxRecDepth 100000 in
theorem xc_isCutOff_u (d : Nat) (hd : d < N 2) (hc : ¬ S 20 d < 0)  (h : yH) (hR : RX dA t0 (S) lf mc cap B N h) : yM (yZ t0 mi D dA) D yX1_isCutOff cX1_isCutOff 1 (some .boolean) 0 0 0 [.ref (B 8 d)] h (fun r h' => r = some (.int (bI (decide (S 20 d < 0)))) ∧ RX dA t0 (S) lf mc cap B N h') := by
  refine yM_of (yZ_ok t0 mi D dA) (by decide) rfl (Nat.le_of_ble_eq_true rfl) ?_
  intro p l e s m args below meth c A C hr hin
  show yW p l e (yR 0 0 0) s m args below meth c 1 D A 0 0 _ 0 [some (.ref (B 8 d))] [] h
  refine yr_aload_n 1 C dX1_isCutOff_0 rfl rfl rfl ?_
  refine yr_get 4 C dX1_isCutOff_1 fl_X1_9 (rx8 hR hd hc) rfl rfl ?_
  refine yr_ifnull_r 7 C dX1_isCutOff_4 rfl ?_
  refine yr_aload_n 8 C dX1_isCutOff_7 rfl rfl rfl ?_
  refine yr_get 11 C dX1_isCutOff_8 fl_X1_15 (rx8 hR hd hc) rfl rfl ?_
  refine yr_ifnonnull_r 18 C dX1_isCutOff_11 (by decide) ?_
  refine yr_iconst 19 C (0) dX1_isCutOff_18 rfl rfl ?_
  refine yr_zret C dX1_isCutOff_19 hr ?_ (Nat.le_of_ble_eq_true rfl) (Nat.le_of_ble_eq_true rfl) ?_
  · first | exact bI_or _ | exact Or.inl rfl | exact Or.inr rfl
  exact ⟨by simp [bI, hc], hR⟩
set_option maxHeartbeats 4000000 in
set_option maxRecDepth 100000 in
theorem xc_isCutOff_c (d : Nat) (hd : d < N 2) (hc : S 20 d < 0)  (h : yH) (hR : RX dA t0 (S) lf mc cap B N h) : yM (yZ t0 mi D dA) D yX1_isCutOff cX1_isCutOff 1 (some .boolean) 0 0 0 [.ref (B 8 d)] h (fun r h' => r = some (.int (bI (decide (S 20 d < 0)))) ∧ RX dA t0 (S) lf mc cap B N h') := by
  refine yM_of (yZ_ok t0 mi D dA) (by decide) rfl (Nat.le_of_ble_eq_true rfl) ?_
  intro p l e s m args below meth c A C hr hin
  show yW p l e (yR 0 0 0) s m args below meth c 1 D A 0 0 _ 0 [some (.ref (B 8 d))] [] h
  refine yr_aload_n 1 C dX1_isCutOff_0 rfl rfl rfl ?_
  refine yr_get 4 C dX1_isCutOff_1 fl_X1_9 (rx8c hR hd hc) rfl rfl ?_
  refine yr_ifnull_n 14 C dX1_isCutOff_4 (by decide) ?_
  refine yr_iconst 15 C (1) dX1_isCutOff_14 rfl rfl ?_
  refine yr_goto 19 C dX1_isCutOff_15 (by decide) ?_
  refine yr_zret C dX1_isCutOff_19 hr ?_ (Nat.le_of_ble_eq_true rfl) (Nat.le_of_ble_eq_true rfl) ?_
  · first | exact bI_or _ | exact Or.inl rfl | exact Or.inr rfl
  exact ⟨by simp [bI, hc], hR⟩
theorem xc_isCutOff (d : Nat) (hd : d < N 2)  (h : yH) (hR : RX dA t0 S lf mc cap B N h) : yM (yZ t0 mi D dA) D yX1_isCutOff cX1_isCutOff 1 (some .boolean) 0 0 0 [.ref (B 8 d)] h (fun r h' => r = some (.int (bI (decide (S 20 d < 0)))) ∧ RX dA t0 S lf mc cap B N h') := by
  by_cases hc : S 20 d < 0
  · exact xc_isCutOff_c d hd hc  h hR
  · exact xc_isCutOff_u d hd hc  h hR
set_option maxHeartbeats 4000000 in
set_option maxRecDepth 100000 in
theorem xc_reaches_u (d y : Nat) (hd : d < N 2) (hy : y < 2 ^ 20) (hc : ¬ S 20 d < 0)  (h : yH) (hR : RX dA t0 (S) lf mc cap B N h) : yM (yZ t0 mi D dA) D yX1_reaches cX1_reaches 2 (some .boolean) 0 0 0 [.ref (B 8 d), .int (nI y)] h (fun r h' => r = some (.int (bI (decide (nI y < S 20 d)))) ∧ RX dA t0 (S) lf mc cap B N h') := by
  refine yM_of (yZ_ok t0 mi D dA) (by decide) rfl (Nat.le_of_ble_eq_true rfl) ?_
  intro p l e s m args below meth c A C hr hin
  show yW p l e (yR 0 0 0) s m args below meth c 2 D A 0 0 _ 0 [some (.ref (B 8 d)), some (.int (nI y))] [] h
  refine yr_iload_n 1 C dX1_reaches_0 rfl rfl ?_
  refine yr_if_lt 16 4 C  dX1_reaches_1 (by decide) rfl (fun c1 => ?_) (fun c1 => ?_)
  · exact absurd c1 (nI_pos (by omega))
  refine yr_iload_n 5 C dX1_reaches_4 rfl rfl ?_
  refine yr_aload_n 6 C dX1_reaches_5 rfl rfl rfl ?_
  refine yr_get 9 C dX1_reaches_6 fl_X1_19 (rx8 hR hd hc) rfl rfl ?_
  refine yr_icmp_ge 16 12 C  dX1_reaches_9 (by decide) rfl (fun c9 => ?_) (fun c9 => ?_)
  · refine yr_iconst 17 C (0) dX1_reaches_16 rfl rfl ?_
    refine yr_zret C dX1_reaches_17 hr ?_ (Nat.le_of_ble_eq_true rfl) (Nat.le_of_ble_eq_true rfl) ?_
    · first | exact bI_or _ | exact Or.inl rfl | exact Or.inr rfl
    exact ⟨by simp [bI, Int32.not_lt.mpr, Int32.not_le.mp, c9], hR⟩
  · refine yr_iconst 13 C (1) dX1_reaches_12 rfl rfl ?_
    refine yr_goto 17 C dX1_reaches_13 (by decide) ?_
    refine yr_zret C dX1_reaches_17 hr ?_ (Nat.le_of_ble_eq_true rfl) (Nat.le_of_ble_eq_true rfl) ?_
    · first | exact bI_or _ | exact Or.inl rfl | exact Or.inr rfl
    exact ⟨by simp [bI, Int32.not_lt.mpr, Int32.not_le.mp, c9], hR⟩
set_option maxHeartbeats 4000000 in
set_option maxRecDepth 100000 in
theorem xc_reaches_c (d y : Nat) (hd : d < N 2) (hy : y < 2 ^ 20) (hc : S 20 d < 0)  (h : yH) (hR : RX dA t0 (S) lf mc cap B N h) : yM (yZ t0 mi D dA) D yX1_reaches cX1_reaches 2 (some .boolean) 0 0 0 [.ref (B 8 d), .int (nI y)] h (fun r h' => r = some (.int (bI (decide (nI y < S 20 d)))) ∧ RX dA t0 (S) lf mc cap B N h') := by
  refine yM_of (yZ_ok t0 mi D dA) (by decide) rfl (Nat.le_of_ble_eq_true rfl) ?_
  intro p l e s m args below meth c A C hr hin
  show yW p l e (yR 0 0 0) s m args below meth c 2 D A 0 0 _ 0 [some (.ref (B 8 d)), some (.int (nI y))] [] h
  refine yr_iload_n 1 C dX1_reaches_0 rfl rfl ?_
  refine yr_if_lt 16 4 C  dX1_reaches_1 (by decide) rfl (fun c1 => ?_) (fun c1 => ?_)
  · exact absurd c1 (nI_pos (by omega))
  refine yr_iload_n 5 C dX1_reaches_4 rfl rfl ?_
  refine yr_aload_n 6 C dX1_reaches_5 rfl rfl rfl ?_
  refine yr_get 9 C dX1_reaches_6 fl_X1_19 (rx8c hR hd hc) rfl rfl ?_
  refine yr_icmp_ge 16 12 C  dX1_reaches_9 (by decide) rfl (fun c9 => ?_) (fun c9 => ?_)
  rotate_left
  · exact absurd (nI_pos' (by omega)) c9
  refine yr_iconst 17 C (0) dX1_reaches_16 rfl rfl ?_
  refine yr_zret C dX1_reaches_17 hr ?_ (Nat.le_of_ble_eq_true rfl) (Nat.le_of_ble_eq_true rfl) ?_
  · first | exact bI_or _ | exact Or.inl rfl | exact Or.inr rfl
  have hne : ¬ nI y < S 20 d := fun q => nI_pos (show y < 2 ^ 31 by omega) (Int32.lt_trans q hc)
  exact ⟨by simp [bI, hne], hR⟩
theorem xc_reaches (d y : Nat) (hd : d < N 2) (hy : y < 2 ^ 20)  (h : yH) (hR : RX dA t0 S lf mc cap B N h) : yM (yZ t0 mi D dA) D yX1_reaches cX1_reaches 2 (some .boolean) 0 0 0 [.ref (B 8 d), .int (nI y)] h (fun r h' => r = some (.int (bI (decide (nI y < S 20 d)))) ∧ RX dA t0 S lf mc cap B N h') := by
  by_cases hc : S 20 d < 0
  · exact xc_reaches_c d y hd hy hc  h hR
  · exact xc_reaches_u d y hd hy hc  h hR
set_option maxHeartbeats 4000000 in
set_option maxRecDepth 100000 in
theorem xc_passingsAt_u (d y : Nat) (hd : d < N 2) (hy : y < 2 ^ 20) (hc : ¬ S 20 d < 0) (h20 : cO (S 20 d) 201) (h : yH) (hR : RX dA t0 (S) lf mc cap B N h) : yM (yZ t0 mi D dA) D yX1_passingsAt cX1_passingsAt 2 (some .int) 1 0 0 [.ref (B 8 d), .int (nI y)] h (fun r h' => r = some (.int (if nI y < S 20 d then S 21 (200 * d + y) else 0)) ∧ RX dA t0 (S) lf mc cap B N h') := by
  refine yM_of (yZ_ok t0 mi D dA) (by decide) rfl (Nat.le_of_ble_eq_true rfl) ?_
  intro p l e s m args below meth c A C hr hin
  show yW p l e (yR 1 0 0) s m args below meth c 2 D A 0 0 _ 0 [some (.ref (B 8 d)), some (.int (nI y))] [] h
  refine yr_aload_n 1 C dX1_passingsAt_0 rfl rfl rfl ?_
  refine yr_get 4 C dX1_passingsAt_1 fl_X1_9 (rx8 hR hd hc) rfl rfl ?_
  refine yr_ifnull_r 7 C dX1_passingsAt_4 rfl ?_
  refine yr_aload_n 8 C dX1_passingsAt_7 rfl rfl rfl ?_
  refine yr_iload_n 9 C dX1_passingsAt_8 rfl rfl ?_
  refine yr_V1v 12 C (xc_reaches _ _ hd hy _ hR) dX1_passingsAt_9 mt_X1_reaches mv_X1_reaches ml_X1_30 (rx8 hR hd hc) rfl (Nat.le_of_ble_eq_true rfl) (Nat.le_of_ble_eq_true rfl) (Nat.le_of_ble_eq_true rfl) (Nat.le_of_ble_eq_true rfl) (Nat.le_of_ble_eq_true rfl) rfl (fun h hR => ?_)
  refine yb_eq 24 15 C  dX1_passingsAt_12 (by decide) rfl (fun c12 => ?_) (fun c12 => ?_)
  · refine yr_iconst 25 C (0) dX1_passingsAt_24 rfl rfl ?_
    refine yr_iret C dX1_passingsAt_25 hr (Nat.le_of_ble_eq_true rfl) (Nat.le_of_ble_eq_true rfl) ?_
    have c13 : ¬ nI y < S 20 d := of_decide_eq_false c12
    exact ⟨by rw [if_neg c13], hR⟩
  · obtain ⟨n, hn, en⟩ := cO_lt (by omega) h20 hc
    have hyn : y < n := by rw [en] at c12; exact (nI_ltI (by omega) (by omega)).mp (of_decide_eq_true c12)
    have exn : ix (S 20 d) = n := by rw [en]; exact ix_nI (by omega)
    refine yr_aload_n 16 C dX1_passingsAt_15 rfl rfl rfl ?_
    refine yr_get 19 C dX1_passingsAt_16 fl_X1_9 (rx8 hR hd hc) rfl rfl ?_
    refine yr_iload_n 20 C dX1_passingsAt_19 rfl rfl ?_
    refine xx_bald 21 C (S 21 (200 * d + y)) dX1_passingsAt_20 (rx9 hR hd (Int32.not_lt.mp hc)) ?_ (by decide) (if_pos (by rw [exn]; exact hyn)) rfl ?_
    · omega
    refine yr_goto 25 C dX1_passingsAt_21 (by decide) ?_
    refine yr_iret C dX1_passingsAt_25 hr (Nat.le_of_ble_eq_true rfl) (Nat.le_of_ble_eq_true rfl) ?_
    have c13 : nI y < S 20 d := of_decide_eq_true c12
    exact ⟨by rw [if_pos c13], hR⟩
set_option maxHeartbeats 4000000 in
set_option maxRecDepth 100000 in
theorem xc_passingsAt_c (d y : Nat) (hd : d < N 2) (hy : y < 2 ^ 20) (hc : S 20 d < 0) (h20 : cO (S 20 d) 201) (h : yH) (hR : RX dA t0 (S) lf mc cap B N h) : yM (yZ t0 mi D dA) D yX1_passingsAt cX1_passingsAt 2 (some .int) 1 0 0 [.ref (B 8 d), .int (nI y)] h (fun r h' => r = some (.int (if nI y < S 20 d then S 21 (200 * d + y) else 0)) ∧ RX dA t0 (S) lf mc cap B N h') := by
  refine yM_of (yZ_ok t0 mi D dA) (by decide) rfl (Nat.le_of_ble_eq_true rfl) ?_
  intro p l e s m args below meth c A C hr hin
  show yW p l e (yR 1 0 0) s m args below meth c 2 D A 0 0 _ 0 [some (.ref (B 8 d)), some (.int (nI y))] [] h
  refine yr_aload_n 1 C dX1_passingsAt_0 rfl rfl rfl ?_
  refine yr_get 4 C dX1_passingsAt_1 fl_X1_9 (rx8c hR hd hc) rfl rfl ?_
  refine yr_ifnull_n 24 C dX1_passingsAt_4 (by decide) ?_
  refine yr_iconst 25 C (0) dX1_passingsAt_24 rfl rfl ?_
  refine yr_iret C dX1_passingsAt_25 hr (Nat.le_of_ble_eq_true rfl) (Nat.le_of_ble_eq_true rfl) ?_
  have hne : ¬ nI y < S 20 d := fun q => nI_pos (show y < 2 ^ 31 by omega) (Int32.lt_trans q hc)
  exact ⟨by rw [if_neg hne], hR⟩
theorem xc_passingsAt (d y : Nat) (hd : d < N 2) (hy : y < 2 ^ 20) (h20 : cO (S 20 d) 201) (h : yH) (hR : RX dA t0 S lf mc cap B N h) : yM (yZ t0 mi D dA) D yX1_passingsAt cX1_passingsAt 2 (some .int) 1 0 0 [.ref (B 8 d), .int (nI y)] h (fun r h' => r = some (.int (if nI y < S 20 d then S 21 (200 * d + y) else 0)) ∧ RX dA t0 S lf mc cap B N h') := by
  by_cases hc : S 20 d < 0
  · exact xc_passingsAt_c d y hd hy hc h20 h hR
  · exact xc_passingsAt_u d y hd hy hc h20 h hR
set_option maxHeartbeats 4000000 in
set_option maxRecDepth 100000 in
theorem xc_occupiedAt_u (d y : Nat) (hd : d < N 2) (hy : y < 2 ^ 20) (hc : ¬ S 20 d < 0) (h20 : cO (S 20 d) 201) (h : yH) (hR : RX dA t0 (S) lf mc cap B N h) : yM (yZ t0 mi D dA) D yX1_occupiedAt cX1_occupiedAt 2 (some .int) 1 0 0 [.ref (B 8 d), .int (nI y)] h (fun r h' => r = some (.int (if nI y < S 20 d then S 22 (200 * d + y) else 0)) ∧ RX dA t0 (S) lf mc cap B N h') := by
  refine yM_of (yZ_ok t0 mi D dA) (by decide) rfl (Nat.le_of_ble_eq_true rfl) ?_
  intro p l e s m args below meth c A C hr hin
  show yW p l e (yR 1 0 0) s m args below meth c 2 D A 0 0 _ 0 [some (.ref (B 8 d)), some (.int (nI y))] [] h
  refine yr_aload_n 1 C dX1_occupiedAt_0 rfl rfl rfl ?_
  refine yr_get 4 C dX1_occupiedAt_1 fl_X1_15 (rx8 hR hd hc) rfl rfl ?_
  refine yr_ifnull_r 7 C dX1_occupiedAt_4 rfl ?_
  refine yr_aload_n 8 C dX1_occupiedAt_7 rfl rfl rfl ?_
  refine yr_iload_n 9 C dX1_occupiedAt_8 rfl rfl ?_
  refine yr_V1v 12 C (xc_reaches _ _ hd hy _ hR) dX1_occupiedAt_9 mt_X1_reaches mv_X1_reaches ml_X1_30 (rx8 hR hd hc) rfl (Nat.le_of_ble_eq_true rfl) (Nat.le_of_ble_eq_true rfl) (Nat.le_of_ble_eq_true rfl) (Nat.le_of_ble_eq_true rfl) (Nat.le_of_ble_eq_true rfl) rfl (fun h hR => ?_)
  refine yb_eq 24 15 C  dX1_occupiedAt_12 (by decide) rfl (fun c12 => ?_) (fun c12 => ?_)
  · refine yr_iconst 25 C (0) dX1_occupiedAt_24 rfl rfl ?_
    refine yr_iret C dX1_occupiedAt_25 hr (Nat.le_of_ble_eq_true rfl) (Nat.le_of_ble_eq_true rfl) ?_
    have c13 : ¬ nI y < S 20 d := of_decide_eq_false c12
    exact ⟨by rw [if_neg c13], hR⟩
  · obtain ⟨n, hn, en⟩ := cO_lt (by omega) h20 hc
    have hyn : y < n := by rw [en] at c12; exact (nI_ltI (by omega) (by omega)).mp (of_decide_eq_true c12)
    have exn : ix (S 20 d) = n := by rw [en]; exact ix_nI (by omega)
    refine yr_aload_n 16 C dX1_occupiedAt_15 rfl rfl rfl ?_
    refine yr_get 19 C dX1_occupiedAt_16 fl_X1_15 (rx8 hR hd hc) rfl rfl ?_
    refine yr_iload_n 20 C dX1_occupiedAt_19 rfl rfl ?_
    refine xx_sald 21 C (S 22 (200 * d + y)) dX1_occupiedAt_20 (rx10 hR hd (Int32.not_lt.mp hc)) ?_ (by decide) (if_pos (by rw [exn]; exact hyn)) rfl ?_
    · omega
    refine yr_goto 25 C dX1_occupiedAt_21 (by decide) ?_
    refine yr_iret C dX1_occupiedAt_25 hr (Nat.le_of_ble_eq_true rfl) (Nat.le_of_ble_eq_true rfl) ?_
    have c13 : nI y < S 20 d := of_decide_eq_true c12
    exact ⟨by rw [if_pos c13], hR⟩
set_option maxHeartbeats 4000000 in
set_option maxRecDepth 100000 in
theorem xc_occupiedAt_c (d y : Nat) (hd : d < N 2) (hy : y < 2 ^ 20) (hc : S 20 d < 0) (h20 : cO (S 20 d) 201) (h : yH) (hR : RX dA t0 (S) lf mc cap B N h) : yM (yZ t0 mi D dA) D yX1_occupiedAt cX1_occupiedAt 2 (some .int) 1 0 0 [.ref (B 8 d), .int (nI y)] h (fun r h' => r = some (.int (if nI y < S 20 d then S 22 (200 * d + y) else 0)) ∧ RX dA t0 (S) lf mc cap B N h') := by
  refine yM_of (yZ_ok t0 mi D dA) (by decide) rfl (Nat.le_of_ble_eq_true rfl) ?_
  intro p l e s m args below meth c A C hr hin
  show yW p l e (yR 1 0 0) s m args below meth c 2 D A 0 0 _ 0 [some (.ref (B 8 d)), some (.int (nI y))] [] h
  refine yr_aload_n 1 C dX1_occupiedAt_0 rfl rfl rfl ?_
  refine yr_get 4 C dX1_occupiedAt_1 fl_X1_15 (rx8c hR hd hc) rfl rfl ?_
  refine yr_ifnull_n 24 C dX1_occupiedAt_4 (by decide) ?_
  refine yr_iconst 25 C (0) dX1_occupiedAt_24 rfl rfl ?_
  refine yr_iret C dX1_occupiedAt_25 hr (Nat.le_of_ble_eq_true rfl) (Nat.le_of_ble_eq_true rfl) ?_
  have hne : ¬ nI y < S 20 d := fun q => nI_pos (show y < 2 ^ 31 by omega) (Int32.lt_trans q hc)
  exact ⟨by rw [if_neg hne], hR⟩
theorem xc_occupiedAt (d y : Nat) (hd : d < N 2) (hy : y < 2 ^ 20) (h20 : cO (S 20 d) 201) (h : yH) (hR : RX dA t0 S lf mc cap B N h) : yM (yZ t0 mi D dA) D yX1_occupiedAt cX1_occupiedAt 2 (some .int) 1 0 0 [.ref (B 8 d), .int (nI y)] h (fun r h' => r = some (.int (if nI y < S 20 d then S 22 (200 * d + y) else 0)) ∧ RX dA t0 S lf mc cap B N h') := by
  by_cases hc : S 20 d < 0
  · exact xc_occupiedAt_c d y hd hy hc h20 h hR
  · exact xc_occupiedAt_u d y hd hy hc h20 h hR
set_option maxHeartbeats 4000000 in
set_option maxRecDepth 100000 in
theorem xc_isWithin (v lo hi : Int32)  (h : yH) (hR : RX dA t0 (S) lf mc cap B N h) : yM (yZ t0 mi D dA) D yX8_isWithin cX8_isWithin 3 (some .boolean) 0 0 0 [.int v, .int lo, .int hi] h (fun r h' => r = some (.int (bI (m_in v lo hi))) ∧ h' = h) := by
  refine yM_of (yZ_ok t0 mi D dA) (by decide) rfl (Nat.le_of_ble_eq_true rfl) ?_
  intro p l e s m args below meth c A C hr hin
  show yW p l e (yR 0 0 0) s m args below meth c 3 D A 0 0 _ 0 [some (.int v), some (.int lo), some (.int hi)] [] h
  refine yr_iload_n 1 C dX8_isWithin_0 rfl rfl ?_
  refine yr_iload_n 2 C dX8_isWithin_1 rfl rfl ?_
  refine yr_icmp_lt 14 5 C  dX8_isWithin_2 (by decide) rfl (fun c2 => ?_) (fun c2 => ?_)
  · refine yr_iconst 15 C (0) dX8_isWithin_14 rfl rfl ?_
    refine yr_zret C dX8_isWithin_15 hr ?_ (Nat.le_of_ble_eq_true rfl) (Nat.le_of_ble_eq_true rfl) ?_
    · first | exact bI_or _ | exact Or.inl rfl | exact Or.inr rfl
    exact ⟨by simp [m_in, bI, c2], rfl⟩
  · refine yr_iload_n 6 C dX8_isWithin_5 rfl rfl ?_
    refine yr_iload_n 7 C dX8_isWithin_6 rfl rfl ?_
    refine yr_icmp_gt 14 10 C  dX8_isWithin_7 (by decide) rfl (fun c7 => ?_) (fun c7 => ?_)
    · refine yr_iconst 15 C (0) dX8_isWithin_14 rfl rfl ?_
      refine yr_zret C dX8_isWithin_15 hr ?_ (Nat.le_of_ble_eq_true rfl) (Nat.le_of_ble_eq_true rfl) ?_
      · first | exact bI_or _ | exact Or.inl rfl | exact Or.inr rfl
      exact ⟨by simp [m_in, bI, c2, c7], rfl⟩
    · refine yr_iconst 11 C (1) dX8_isWithin_10 rfl rfl ?_
      refine yr_goto 15 C dX8_isWithin_11 (by decide) ?_
      refine yr_zret C dX8_isWithin_15 hr ?_ (Nat.le_of_ble_eq_true rfl) (Nat.le_of_ble_eq_true rfl) ?_
      · first | exact bI_or _ | exact Or.inl rfl | exact Or.inr rfl
      exact ⟨by simp [m_in, bI, c2, c7], rfl⟩
set_option maxHeartbeats 4000000 in
set_option maxRecDepth 100000 in
theorem xc_phaseAt (q : Int32) (hN : S 1 0 = nI (N 0) ∧ N 0 ≤ 8) (h : yH) (hR : RX dA t0 (S) lf mc cap B N h) : yM (yZ t0 mi D dA) D yX8_phaseAt cX8_phaseAt 2 (some (.object "CrossingKeeper$Phase")) 3 0 0 [.ref (B 0 0), .int q] h (fun r h' => r = some (va_rf (if m_isP S q then some (B 3 (ix q)) else none)) ∧ RX dA t0 (S) lf mc cap B N h') := by
  refine yM_of (yZ_ok t0 mi D dA) (by decide) rfl (Nat.le_of_ble_eq_true rfl) ?_
  intro p l e s m args below meth c A C hr hin
  show yW p l e (yR 3 0 0) s m args below meth c 2 D A 0 0 _ 0 [some (.ref (B 0 0)), some (.int q)] [] h
  refine yr_iload_n 1 C dX8_phaseAt_0 rfl rfl ?_
  refine yr_if_lt 29 4 C  dX8_phaseAt_1 (by decide) rfl (fun c1 => ?_) (fun c1 => ?_)
  · refine yr_null 30 C dX8_phaseAt_29 rfl ?_
    refine yr_aret C dX8_phaseAt_30 hr (Or.inl ⟨_, rfl⟩) rfl (Nat.le_of_ble_eq_true rfl) (Nat.le_of_ble_eq_true rfl) ?_
    refine ⟨?_, hR⟩
    have e : m_isP S q = false := m_in_neg c1
    rw [e]
    rfl
  · refine yr_iload_n 5 C dX8_phaseAt_4 rfl rfl ?_
    refine yr_aload_n 6 C dX8_phaseAt_5 rfl rfl rfl ?_
    refine yr_get 9 C dX8_phaseAt_6 fl_X8_10 (rx0 hR) rfl rfl ?_
    refine yr_V0v 12 C (jl_size (show 0 < 5 by decide) _ hR) dX8_phaseAt_9 mt_Jx4a65c_size_8abf5 mv_Jx4a65c_size_8abf5 ml_X8_75 (rx1 hR (show 0 < 5 by decide)) rfl (Nat.le_of_ble_eq_true rfl) (Nat.le_of_ble_eq_true rfl) (Nat.le_of_ble_eq_true rfl) (Nat.le_of_ble_eq_true rfl) (Nat.le_of_ble_eq_true rfl) rfl (fun h e => ?_)
    subst e
    refine yr_icmp_ge 29 15 C  dX8_phaseAt_12 (by decide) rfl (fun c12 => ?_) (fun c12 => ?_)
    · refine yr_null 30 C dX8_phaseAt_29 rfl ?_
      refine yr_aret C dX8_phaseAt_30 hr (Or.inl ⟨_, rfl⟩) rfl (Nat.le_of_ble_eq_true rfl) (Nat.le_of_ble_eq_true rfl) ?_
      refine ⟨?_, hR⟩
      obtain ⟨j, hj0, rfl⟩ := nI_of c1
      have e : m_isP S (nI j) = false := by
        unfold m_isP
        rw [hN.1]
        exact m_in_not (by omega) hj0 ((nI_leI (by omega) hj0).mp c12)
      rw [e]
      rfl
    · obtain ⟨j, hj0, rfl⟩ := nI_of c1
      have hj : j < N 0 := by
        rcases Nat.lt_or_ge j (N 0) with q | q
        · exact q
        · exact absurd (nI_le q hj0) c12
      refine yr_aload_n 16 C dX8_phaseAt_15 rfl rfl rfl ?_
      refine yr_get 19 C dX8_phaseAt_16 fl_X8_10 (rx0 hR) rfl rfl ?_
      refine yr_iload_n 20 C dX8_phaseAt_19 rfl rfl ?_
      refine yr_V1v 23 C (jl_get (show 0 < 5 by decide) hj _ hR) dX8_phaseAt_20 mt_Jx4a65c_get_915e3 mv_Jx4a65c_get_915e3 ml_X8_99 (rx1 hR (show 0 < 5 by decide)) rfl (Nat.le_of_ble_eq_true rfl) (Nat.le_of_ble_eq_true rfl) (Nat.le_of_ble_eq_true rfl) (Nat.le_of_ble_eq_true rfl) (Nat.le_of_ble_eq_true rfl) rfl (fun h e => ?_)
      subst e
      refine yr_cast 26 C dX8_phaseAt_23 (rx3 hR hj) rfl cl_X8_79 rfl ?_
      refine yr_goto 30 C dX8_phaseAt_26 (by decide) ?_
      refine yr_aret C dX8_phaseAt_30 hr (Or.inl ⟨_, rfl⟩) rfl (Nat.le_of_ble_eq_true rfl) (Nat.le_of_ble_eq_true rfl) ?_
      refine ⟨?_, hR⟩
      have e : m_isP S (nI j) = true := by
        unfold m_isP
        rw [hN.1]
        exact m_in_of (by omega) hj
      rw [e, ix_nI hj0]
      rfl
set_option maxHeartbeats 4000000 in
set_option maxRecDepth 100000 in
theorem xc_stageAt (q : Int32) (hN : S 17 0 = nI (N 1) ∧ N 1 ≤ 6) (h : yH) (hR : RX dA t0 (S) lf mc cap B N h) : yM (yZ t0 mi D dA) D yX8_stageAt cX8_stageAt 2 (some (.object "CrossingKeeper$Stage")) 3 0 0 [.ref (B 0 0), .int q] h (fun r h' => r = some (va_rf (if m_isS S q then some (B 6 (ix q)) else none)) ∧ RX dA t0 (S) lf mc cap B N h') := by
  refine yM_of (yZ_ok t0 mi D dA) (by decide) rfl (Nat.le_of_ble_eq_true rfl) ?_
  intro p l e s m args below meth c A C hr hin
  show yW p l e (yR 3 0 0) s m args below meth c 2 D A 0 0 _ 0 [some (.ref (B 0 0)), some (.int q)] [] h
  refine yr_iload_n 1 C dX8_stageAt_0 rfl rfl ?_
  refine yr_if_lt 29 4 C  dX8_stageAt_1 (by decide) rfl (fun c1 => ?_) (fun c1 => ?_)
  · refine yr_null 30 C dX8_stageAt_29 rfl ?_
    refine yr_aret C dX8_stageAt_30 hr (Or.inl ⟨_, rfl⟩) rfl (Nat.le_of_ble_eq_true rfl) (Nat.le_of_ble_eq_true rfl) ?_
    refine ⟨?_, hR⟩
    have e : m_isS S q = false := m_in_neg c1
    rw [e]
    rfl
  · refine yr_iload_n 5 C dX8_stageAt_4 rfl rfl ?_
    refine yr_aload_n 6 C dX8_stageAt_5 rfl rfl rfl ?_
    refine yr_get 9 C dX8_stageAt_6 fl_X8_16 (rx0 hR) rfl rfl ?_
    refine yr_V0v 12 C (jl_size (show 1 < 5 by decide) _ hR) dX8_stageAt_9 mt_Jx4a65c_size_8abf5 mv_Jx4a65c_size_8abf5 ml_X8_75 (rx1 hR (show 1 < 5 by decide)) rfl (Nat.le_of_ble_eq_true rfl) (Nat.le_of_ble_eq_true rfl) (Nat.le_of_ble_eq_true rfl) (Nat.le_of_ble_eq_true rfl) (Nat.le_of_ble_eq_true rfl) rfl (fun h e => ?_)
    subst e
    refine yr_icmp_ge 29 15 C  dX8_stageAt_12 (by decide) rfl (fun c12 => ?_) (fun c12 => ?_)
    · refine yr_null 30 C dX8_stageAt_29 rfl ?_
      refine yr_aret C dX8_stageAt_30 hr (Or.inl ⟨_, rfl⟩) rfl (Nat.le_of_ble_eq_true rfl) (Nat.le_of_ble_eq_true rfl) ?_
      refine ⟨?_, hR⟩
      obtain ⟨j, hj0, rfl⟩ := nI_of c1
      have e : m_isS S (nI j) = false := by
        unfold m_isS
        rw [hN.1]
        exact m_in_not (by omega) hj0 ((nI_leI (by omega) hj0).mp c12)
      rw [e]
      rfl
    · obtain ⟨j, hj0, rfl⟩ := nI_of c1
      have hj : j < N 1 := by
        rcases Nat.lt_or_ge j (N 1) with q | q
        · exact q
        · exact absurd (nI_le q hj0) c12
      refine yr_aload_n 16 C dX8_stageAt_15 rfl rfl rfl ?_
      refine yr_get 19 C dX8_stageAt_16 fl_X8_16 (rx0 hR) rfl rfl ?_
      refine yr_iload_n 20 C dX8_stageAt_19 rfl rfl ?_
      refine yr_V1v 23 C (jl_get (show 1 < 5 by decide) hj _ hR) dX8_stageAt_20 mt_Jx4a65c_get_915e3 mv_Jx4a65c_get_915e3 ml_X8_99 (rx1 hR (show 1 < 5 by decide)) rfl (Nat.le_of_ble_eq_true rfl) (Nat.le_of_ble_eq_true rfl) (Nat.le_of_ble_eq_true rfl) (Nat.le_of_ble_eq_true rfl) (Nat.le_of_ble_eq_true rfl) rfl (fun h e => ?_)
      subst e
      refine yr_cast 26 C dX8_stageAt_23 (rx6 hR hj) rfl cl_X8_103 rfl ?_
      refine yr_goto 30 C dX8_stageAt_26 (by decide) ?_
      refine yr_aret C dX8_stageAt_30 hr (Or.inl ⟨_, rfl⟩) rfl (Nat.le_of_ble_eq_true rfl) (Nat.le_of_ble_eq_true rfl) ?_
      refine ⟨?_, hR⟩
      have e : m_isS S (nI j) = true := by
        unfold m_isS
        rw [hN.1]
        exact m_in_of (by omega) hj
      rw [e, ix_nI hj0]
      rfl
set_option maxHeartbeats 4000000 in
set_option maxRecDepth 100000 in
theorem xc_detectorAt (q : Int32) (hN : S 19 0 = nI (N 2) ∧ N 2 ≤ 12) (h : yH) (hR : RX dA t0 (S) lf mc cap B N h) : yM (yZ t0 mi D dA) D yX8_detectorAt cX8_detectorAt 2 (some (.object "CrossingKeeper$Detector")) 3 0 0 [.ref (B 0 0), .int q] h (fun r h' => r = some (va_rf (if m_isD S q then some (B 8 (ix q)) else none)) ∧ RX dA t0 (S) lf mc cap B N h') := by
  refine yM_of (yZ_ok t0 mi D dA) (by decide) rfl (Nat.le_of_ble_eq_true rfl) ?_
  intro p l e s m args below meth c A C hr hin
  show yW p l e (yR 3 0 0) s m args below meth c 2 D A 0 0 _ 0 [some (.ref (B 0 0)), some (.int q)] [] h
  refine yr_iload_n 1 C dX8_detectorAt_0 rfl rfl ?_
  refine yr_if_lt 29 4 C  dX8_detectorAt_1 (by decide) rfl (fun c1 => ?_) (fun c1 => ?_)
  · refine yr_null 30 C dX8_detectorAt_29 rfl ?_
    refine yr_aret C dX8_detectorAt_30 hr (Or.inl ⟨_, rfl⟩) rfl (Nat.le_of_ble_eq_true rfl) (Nat.le_of_ble_eq_true rfl) ?_
    refine ⟨?_, hR⟩
    have e : m_isD S q = false := m_in_neg c1
    rw [e]
    rfl
  · refine yr_iload_n 5 C dX8_detectorAt_4 rfl rfl ?_
    refine yr_aload_n 6 C dX8_detectorAt_5 rfl rfl rfl ?_
    refine yr_get 9 C dX8_detectorAt_6 fl_X8_19 (rx0 hR) rfl rfl ?_
    refine yr_V0v 12 C (jl_size (show 2 < 5 by decide) _ hR) dX8_detectorAt_9 mt_Jx4a65c_size_8abf5 mv_Jx4a65c_size_8abf5 ml_X8_75 (rx1 hR (show 2 < 5 by decide)) rfl (Nat.le_of_ble_eq_true rfl) (Nat.le_of_ble_eq_true rfl) (Nat.le_of_ble_eq_true rfl) (Nat.le_of_ble_eq_true rfl) (Nat.le_of_ble_eq_true rfl) rfl (fun h e => ?_)
    subst e
    refine yr_icmp_ge 29 15 C  dX8_detectorAt_12 (by decide) rfl (fun c12 => ?_) (fun c12 => ?_)
    · refine yr_null 30 C dX8_detectorAt_29 rfl ?_
      refine yr_aret C dX8_detectorAt_30 hr (Or.inl ⟨_, rfl⟩) rfl (Nat.le_of_ble_eq_true rfl) (Nat.le_of_ble_eq_true rfl) ?_
      refine ⟨?_, hR⟩
      obtain ⟨j, hj0, rfl⟩ := nI_of c1
      have e : m_isD S (nI j) = false := by
        unfold m_isD
        rw [hN.1]
        exact m_in_not (by omega) hj0 ((nI_leI (by omega) hj0).mp c12)
      rw [e]
      rfl
    · obtain ⟨j, hj0, rfl⟩ := nI_of c1
      have hj : j < N 2 := by
        rcases Nat.lt_or_ge j (N 2) with q | q
        · exact q
        · exact absurd (nI_le q hj0) c12
      refine yr_aload_n 16 C dX8_detectorAt_15 rfl rfl rfl ?_
      refine yr_get 19 C dX8_detectorAt_16 fl_X8_19 (rx0 hR) rfl rfl ?_
      refine yr_iload_n 20 C dX8_detectorAt_19 rfl rfl ?_
      refine yr_V1v 23 C (jl_get (show 2 < 5 by decide) hj _ hR) dX8_detectorAt_20 mt_Jx4a65c_get_915e3 mv_Jx4a65c_get_915e3 ml_X8_99 (rx1 hR (show 2 < 5 by decide)) rfl (Nat.le_of_ble_eq_true rfl) (Nat.le_of_ble_eq_true rfl) (Nat.le_of_ble_eq_true rfl) (Nat.le_of_ble_eq_true rfl) (Nat.le_of_ble_eq_true rfl) rfl (fun h e => ?_)
      subst e
      refine yr_cast 26 C dX8_detectorAt_23 (hR.1 8 j hj) rfl cl_X8_128 rfl ?_
      refine yr_goto 30 C dX8_detectorAt_26 (by decide) ?_
      refine yr_aret C dX8_detectorAt_30 hr (Or.inl ⟨_, rfl⟩) rfl (Nat.le_of_ble_eq_true rfl) (Nat.le_of_ble_eq_true rfl) ?_
      refine ⟨?_, hR⟩
      have e : m_isD S (nI j) = true := by
        unfold m_isD
        rw [hN.1]
        exact m_in_of (by omega) hj
      rw [e, ix_nI hj0]
      rfl
end X6
