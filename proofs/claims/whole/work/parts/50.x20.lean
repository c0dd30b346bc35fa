section X20
variable {D : va_G} {dA : Nat → ClassId} {t0 mi : Nat} {S : yS} {lf mc : Nat → Int32} {cap : Nat → Nat} {B : Nat → Nat → Nat} {N : Nat → Nat}
variable {t : Nat}
set_option maxHeartbeats 4000000 in
set_option maxRecDepth 100000 in
theorem xc_bound  (hI : mI S (N 0) (N 1) (N 2) (N 3) (N 4) t) (ht : t < 2 ^ 20) (hlf : lf = S 5) (h : yH) (hR : RX dA t0 (S) lf mc cap B N h) : yM (yZ t0 mi D dA) D yX8_bound cX8_bound 5 (some .int) 3 0 0 [.ref (B 0 0)] h (fun r h' => r = some (.int (sp_bound S).1) ∧ RX dA t0 ((sp_bound S).2) lf mc cap B N h') := by
  refine yM_of (yZ_ok t0 mi D dA) (by decide) rfl (Nat.le_of_ble_eq_true rfl) ?_
  intro p l e s m args below meth c A C hr hin
  show yW p l e (yR 3 0 0) s m args below meth c 5 D A 0 0 _ 0 [some (.ref (B 0 0)), none, none, none, none] [] h
  have h0 : S 1 0 = nI (N 0) ∧ N 0 ≤ 8 := hI 0
  have h1 : S 17 0 = nI (N 1) ∧ N 1 ≤ 6 := hI 1
  have h2 : S 19 0 = nI (N 2) ∧ N 2 ≤ 12 := hI 2
  have h5 : S 0 0 = nI t := hI 5
  have hB := mB_of_mI hI ht
  have es : ix (S 17 0) = N 1 := by rw [h1.1]; exact ix_nI (by omega)
  have ep : ix (S 1 0) = N 0 := by rw [h0.1]; exact ix_nI (by omega)
  refine yr_iconst 1 C (0) dX8_bound_0 rfl rfl ?_
  refine yr_istore1 2 C dX8_bound_1 (by decide) rfl ?_
  refine yr_iconst 3 C (0) dX8_bound_2 rfl rfl ?_
  refine yr_istore2 4 C dX8_bound_3 (by decide) rfl ?_
  have loop4 : ∀ (j i : Nat) (x : Int32), i + j = N 1 → x_tgL S j i x = x_tgL S (N 1) 0 0 → ∀ h : yH, RX dA t0 (S) lf mc cap B N h → yW p l e (yR 3 0 0) s m args below meth c 5 D A 0 0 (yF D A (fun r h' => r = some (.int (sp_bound S).1) ∧ RX dA t0 ((sp_bound S).2) lf mc cap B N h') below args s 0 0) 4 [some (.ref (B 0 0)), some (.int x), some (.int (nI i)), none, none] [] h := by
    intro j
    induction j with
    | zero =>
      intro i x hij he h hR
      refine yr_iload_n 5 C dX8_bound_4 rfl rfl ?_
      refine yr_aload_n 6 C dX8_bound_5 rfl rfl rfl ?_
      refine yr_get 9 C dX8_bound_6 fl_X8_16 (rx0 hR) rfl rfl ?_
      refine yr_V0v 12 C (jl_size (show 1 < 5 by decide) _ hR) dX8_bound_9 mt_Jx4a65c_size_8abf5 mv_Jx4a65c_size_8abf5 ml_X8_75 (rx1 hR (show 1 < 5 by decide)) rfl (Nat.le_of_ble_eq_true rfl) (Nat.le_of_ble_eq_true rfl) (Nat.le_of_ble_eq_true rfl) (Nat.le_of_ble_eq_true rfl) (Nat.le_of_ble_eq_true rfl) rfl (fun h e => ?_)
      subst e
      refine yr_icmp_ge 38 15 C  dX8_bound_12 (by decide) rfl (fun c12 => ?_) (fun c12 => ?_)
      rotate_left
      · exact absurd (nI_le (by omega) (by omega)) c12
      refine yr_iconst 39 C (0) dX8_bound_38 rfl rfl ?_
      refine yr_istore2 40 C dX8_bound_39 (by decide) rfl ?_
      refine yr_iconst 41 C (0) dX8_bound_40 rfl rfl ?_
      refine yr_istore3 42 C dX8_bound_41 (by decide) rfl ?_
      refine yr_iconst 43 C (0) dX8_bound_42 rfl rfl ?_
      refine yr_istore4 45 C dX8_bound_43 (by decide) rfl ?_
      have loop45 : ∀ (j2 i2 : Nat) (a b : Int32), i2 + j2 = N 0 → m_bdX S j2 i2 a b = m_bdX S (N 0) 0 0 0 → ∀ h : yH, RX dA t0 (S) lf mc cap B N h → yW p l e (yR 3 0 0) s m args below meth c 5 D A 0 0 (yF D A (fun r h' => r = some (.int (sp_bound S).1) ∧ RX dA t0 ((sp_bound S).2) lf mc cap B N h') below args s 0 0) 45 [some (.ref (B 0 0)), some (.int x), some (.int a), some (.int b), some (.int (nI i2))] [] h := by
        intro j2
        induction j2 with
        | zero =>
          intro i2 a b hij2 hg h hR
          refine yr_iload 47 C dX8_bound_45 rfl rfl ?_
          refine yr_aload_n 48 C dX8_bound_47 rfl rfl rfl ?_
          refine yr_get 51 C dX8_bound_48 fl_X8_10 (rx0 hR) rfl rfl ?_
          refine yr_V0v 54 C (jl_size (show 0 < 5 by decide) _ hR) dX8_bound_51 mt_Jx4a65c_size_8abf5 mv_Jx4a65c_size_8abf5 ml_X8_75 (rx1 hR (show 0 < 5 by decide)) rfl (Nat.le_of_ble_eq_true rfl) (Nat.le_of_ble_eq_true rfl) (Nat.le_of_ble_eq_true rfl) (Nat.le_of_ble_eq_true rfl) (Nat.le_of_ble_eq_true rfl) rfl (fun h e => ?_)
          subst e
          refine yr_icmp_ge 103 57 C  dX8_bound_54 (by decide) rfl (fun c54 => ?_) (fun c54 => ?_)
          rotate_left
          · exact absurd (nI_le (by omega) (by omega)) c54
          refine yr_iload_n 104 C dX8_bound_103 rfl rfl ?_
          refine yr_aload_n 105 C dX8_bound_104 rfl rfl rfl ?_
          refine yr_get 108 C dX8_bound_105 fl_X8_16 (rx0 hR) rfl rfl ?_
          refine yr_V0v 111 C (jl_size (show 1 < 5 by decide) _ hR) dX8_bound_108 mt_Jx4a65c_size_8abf5 mv_Jx4a65c_size_8abf5 ml_X8_75 (rx1 hR (show 1 < 5 by decide)) rfl (Nat.le_of_ble_eq_true rfl) (Nat.le_of_ble_eq_true rfl) (Nat.le_of_ble_eq_true rfl) (Nat.le_of_ble_eq_true rfl) (Nat.le_of_ble_eq_true rfl) rfl (fun h e => ?_)
          subst e
          refine yr_iload_n 112 C dX8_bound_111 rfl rfl ?_
          refine yr_iload_n 113 C dX8_bound_112 rfl rfl ?_
          refine yr_iadd 114 C dX8_bound_113 rfl ?_
          refine yr_imul 115 C dX8_bound_114 rfl ?_
          refine yr_iadd 116 C dX8_bound_115 rfl ?_
          refine yr_iret C dX8_bound_116 hr (Nat.le_of_ble_eq_true rfl) (Nat.le_of_ble_eq_true rfl) ?_
          refine ⟨?_, hR⟩
          have he2 : x = x_tgL S (N 1) 0 0 := he
          have hg2 : (a, b) = m_bdX S (N 0) 0 0 0 := hg
          unfold sp_bound
          rw [es, ep, bdO_X (c := 0) h0.2 (hI 21) (N 0) 0 0 (by omega) (by omega) |> fun q => show m_bdO S (N 0) (N 0) 0 0 0 = m_bdX S (N 0) 0 0 0 from q, ← hg2]
          show some (Value.int (x + nI (N 1) * (a + b))) = some (Value.int (m_bdS S a b (N 1) 0 0))
          rw [bdS_tg, he2]
        | succ j2 ih2 =>
          intro i2 a b hij2 hg h hR
          refine yr_iload 47 C dX8_bound_45 rfl rfl ?_
          refine yr_aload_n 48 C dX8_bound_47 rfl rfl rfl ?_
          refine yr_get 51 C dX8_bound_48 fl_X8_10 (rx0 hR) rfl rfl ?_
          refine yr_V0v 54 C (jl_size (show 0 < 5 by decide) _ hR) dX8_bound_51 mt_Jx4a65c_size_8abf5 mv_Jx4a65c_size_8abf5 ml_X8_75 (rx1 hR (show 0 < 5 by decide)) rfl (Nat.le_of_ble_eq_true rfl) (Nat.le_of_ble_eq_true rfl) (Nat.le_of_ble_eq_true rfl) (Nat.le_of_ble_eq_true rfl) (Nat.le_of_ble_eq_true rfl) rfl (fun h e => ?_)
          subst e
          refine yr_icmp_ge 103 57 C  dX8_bound_54 (by decide) rfl (fun c54 => ?_) (fun c54 => ?_)
          · exact absurd c54 (nI_ge (by omega) (by omega))
          refine yr_iload_n 58 C dX8_bound_57 rfl rfl ?_
          refine yr_aload_n 59 C dX8_bound_58 rfl rfl rfl ?_
          refine yr_get 62 C dX8_bound_59 fl_X8_10 (rx0 hR) rfl rfl ?_
          refine yr_iload 64 C dX8_bound_62 rfl rfl ?_
          refine yr_V1v 67 C (jl_get (show 0 < 5 by decide) (j := i2) (by omega) _ hR) dX8_bound_64 mt_Jx4a65c_get_915e3 mv_Jx4a65c_get_915e3 ml_X8_99 (rx1 hR (show 0 < 5 by decide)) rfl (Nat.le_of_ble_eq_true rfl) (Nat.le_of_ble_eq_true rfl) (Nat.le_of_ble_eq_true rfl) (Nat.le_of_ble_eq_true rfl) (Nat.le_of_ble_eq_true rfl) rfl (fun h e => ?_)
          subst e
          rw [show xkd 0 = 3 from rfl]
          refine yr_cast 70 C dX8_bound_67 (rx3 hR (by omega)) rfl cl_X8_79 rfl ?_
          refine yr_get 73 C dX8_bound_70 fl_X8_247 (rx3 hR (by omega)) rfl rfl ?_
          refine yr_S2v 76 C (jc_max _ _ _) dX8_bound_73 mt_J9_max_7cf53 ms_J9_max_7cf53 ml_X8_253 (Nat.le_of_ble_eq_true rfl) (Nat.le_of_ble_eq_true rfl) (Nat.le_of_ble_eq_true rfl) (Nat.le_of_ble_eq_true rfl) (Nat.le_of_ble_eq_true rfl) rfl (fun h e => ?_)
          subst e
          refine yr_istore2 77 C dX8_bound_76 (by decide) rfl ?_
          refine yr_iload_n 78 C dX8_bound_77 rfl rfl ?_
          refine yr_aload_n 79 C dX8_bound_78 rfl rfl rfl ?_
          refine yr_get 82 C dX8_bound_79 fl_X8_10 (rx0 hR) rfl rfl ?_
          refine yr_iload 84 C dX8_bound_82 rfl rfl ?_
          refine yr_V1v 87 C (jl_get (show 0 < 5 by decide) (j := i2) (by omega) _ hR) dX8_bound_84 mt_Jx4a65c_get_915e3 mv_Jx4a65c_get_915e3 ml_X8_99 (rx1 hR (show 0 < 5 by decide)) rfl (Nat.le_of_ble_eq_true rfl) (Nat.le_of_ble_eq_true rfl) (Nat.le_of_ble_eq_true rfl) (Nat.le_of_ble_eq_true rfl) (Nat.le_of_ble_eq_true rfl) rfl (fun h e => ?_)
          subst e
          rw [show xkd 0 = 3 from rfl]
          refine yr_cast 90 C dX8_bound_87 (rx3 hR (by omega)) rfl cl_X8_79 rfl ?_
          refine yr_V0v 93 C (xc_greatestClearing i2 (by omega) _ hR) dX8_bound_90 mt_X6_greatestClearing mv_X6_greatestClearing ml_X8_259 (rx3 hR (by omega)) rfl (Nat.le_of_ble_eq_true rfl) (Nat.le_of_ble_eq_true rfl) (Nat.le_of_ble_eq_true rfl) (Nat.le_of_ble_eq_true rfl) (Nat.le_of_ble_eq_true rfl) rfl (fun h hR => ?_)
          refine yr_S2v 96 C (jc_max _ _ _) dX8_bound_93 mt_J9_max_7cf53 ms_J9_max_7cf53 ml_X8_253 (Nat.le_of_ble_eq_true rfl) (Nat.le_of_ble_eq_true rfl) (Nat.le_of_ble_eq_true rfl) (Nat.le_of_ble_eq_true rfl) (Nat.le_of_ble_eq_true rfl) rfl (fun h e => ?_)
          subst e
          refine yr_istore3 97 C dX8_bound_96 (by decide) rfl ?_
          refine yr_iinc4 100 C (1) dX8_bound_97 rfl (by decide) rfl ?_
          rw [nI_1]
          refine yr_goto 45 C dX8_bound_100 (by decide) ?_
          exact ih2 (i2 + 1) _ _ (by omega) hg h hR
      exact loop45 (N 0) 0 0 0 (by omega) rfl h hR
    | succ j ih =>
      intro i x hij he h hR
      refine yr_iload_n 5 C dX8_bound_4 rfl rfl ?_
      refine yr_aload_n 6 C dX8_bound_5 rfl rfl rfl ?_
      refine yr_get 9 C dX8_bound_6 fl_X8_16 (rx0 hR) rfl rfl ?_
      refine yr_V0v 12 C (jl_size (show 1 < 5 by decide) _ hR) dX8_bound_9 mt_Jx4a65c_size_8abf5 mv_Jx4a65c_size_8abf5 ml_X8_75 (rx1 hR (show 1 < 5 by decide)) rfl (Nat.le_of_ble_eq_true rfl) (Nat.le_of_ble_eq_true rfl) (Nat.le_of_ble_eq_true rfl) (Nat.le_of_ble_eq_true rfl) (Nat.le_of_ble_eq_true rfl) rfl (fun h e => ?_)
      subst e
      refine yr_icmp_ge 38 15 C  dX8_bound_12 (by decide) rfl (fun c12 => ?_) (fun c12 => ?_)
      · exact absurd c12 (nI_ge (by omega) (by omega))
      refine yr_iload_n 16 C dX8_bound_15 rfl rfl ?_
      refine yr_aload_n 17 C dX8_bound_16 rfl rfl rfl ?_
      refine yr_get 20 C dX8_bound_17 fl_X8_16 (rx0 hR) rfl rfl ?_
      refine yr_iload_n 21 C dX8_bound_20 rfl rfl ?_
      refine yr_V1v 24 C (jl_get (show 1 < 5 by decide) (j := i) (by omega) _ hR) dX8_bound_21 mt_Jx4a65c_get_915e3 mv_Jx4a65c_get_915e3 ml_X8_99 (rx1 hR (show 1 < 5 by decide)) rfl (Nat.le_of_ble_eq_true rfl) (Nat.le_of_ble_eq_true rfl) (Nat.le_of_ble_eq_true rfl) (Nat.le_of_ble_eq_true rfl) (Nat.le_of_ble_eq_true rfl) rfl (fun h e => ?_)
      subst e
      rw [show xkd 1 = 6 from rfl]
      refine yr_cast 27 C dX8_bound_24 (rx6 hR (by omega)) rfl cl_X8_103 rfl ?_
      refine yr_V0v 30 C (xc_greatestGreen i (by omega) hB _ hR) dX8_bound_27 mt_X7_greatestGreen mv_X7_greatestGreen ml_X8_250 (rx6 hR (by omega)) rfl (Nat.le_of_ble_eq_true rfl) (Nat.le_of_ble_eq_true rfl) (Nat.le_of_ble_eq_true rfl) (Nat.le_of_ble_eq_true rfl) (Nat.le_of_ble_eq_true rfl) rfl (fun h hR => ?_)
      rw [great_eq h0.2 (fun k hk => (show ∀ s, s < N 1 → ∀ k, k < 4 → cO (S 18 (4 * s + k)) (N 0) from hI 9) i (by omega) k hk) (fun p hp => ((show ∀ p, p < N 0 → (∃ k, k ≤ 60 ∧ S 11 p = nI k) ∧ (∃ k, k ≤ 120 ∧ S 12 p = nI k) ∧ ∃ k, k ≤ 9 ∧ S 13 p = nI k from hI 19) p hp).2.1) ((show ∀ s, s < N 1 → ∃ k, k < 4 ∧ S 18 (4 * s + k) ≠ -5 from hI 23) i (by omega))]
      refine yr_iadd 31 C dX8_bound_30 rfl ?_
      refine yr_istore1 32 C dX8_bound_31 (by decide) rfl ?_
      refine yr_iinc2 35 C (1) dX8_bound_32 rfl (by decide) rfl ?_
      rw [nI_1]
      refine yr_goto 4 C dX8_bound_35 (by decide) ?_
      exact ih (i + 1) _ (by omega) he h hR
  exact loop4 (N 1) 0 0 (by omega) rfl h hR
end X20
