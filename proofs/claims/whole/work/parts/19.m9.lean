theorem mB_of_mI {S : yS} {np ns nd no nr t : Nat} (hI : mI S np ns nd no nr t) (ht : t < 2 ^ 20) : mB S np ns nd nr t := fun i => match i with
  | 0 => hI 0
  | 1 => hI 1
  | 2 => hI 4
  | 3 => ⟨hI 5, ht, (show S 19 0 = nI nd ∧ nd ≤ 12 from hI 2).2⟩
  | 4 => hI 6
  | 5 => hI 7
  | 6 => hI 8
  | 7 => hI 9
  | 8 => hI 11
  | 9 => hI 15
  | (_ + 10) => trivial
def m_allL (v : Int32) : Nat → Nat → yS → yS
  | 0, _, S => S
  | j + 1, i, S => m_allL v j (i + 1) (m_change S i v)
theorem m_allL_rw (v : Int32) : ∀ (j i : Nat) (S : yS), mRw lChg S (m_allL v j i S)
  | 0, _, S => mRw_rf S
  | j + 1, i, S => mRw_tr (m_change_rw S i v) (m_allL_rw v j (i + 1) _)
def m_am (S : yS) (i : Nat) : yS := if S 3 i = 2 then (if S 0 0 < S 8 i then S else m_change S i 0) else S
def m_amL : Nat → Nat → yS → yS
  | 0, _, S => S
  | j + 1, i, S => m_amL j (i + 1) (m_am S i)
theorem m_am_rw (S : yS) (i : Nat) : mRw lChg S (m_am S i) := by
  unfold m_am
  repeat' split
  all_goals first | exact mRw_rf S | exact m_change_rw S i 0
theorem m_amL_rw : ∀ (j i : Nat) (S : yS), mRw lChg S (m_amL j i S)
  | 0, _, S => mRw_rf S
  | j + 1, i, S => mRw_tr (m_am_rw S i) (m_amL_rw j (i + 1) _)
def m_kpL (t : Nat) : Nat → Nat → yS → yS
  | 0, _, S => S
  | j + 1, i, S => m_kpL t j (i + 1) (mset S 51 (8 * (t % 61) + i) (S 3 i))
theorem m_kpL_rw (t : Nat) : ∀ (j i : Nat) (S : yS), mRw [51] S (m_kpL t j i S)
  | 0, _, S => mRw_rf S
  | j + 1, i, S => mRw_tr (mRw_set S _ _ rfl) (m_kpL_rw t j (i + 1) _)
def m_keep (S : yS) (np t : Nat) : yS := mset (m_kpL t np 0 S) 0 0 (m_kpL t np 0 S 0 0 + 1)
def m_flash (S : yS) (np : Nat) : yS := if S 0 0 = S 42 0 + 3 then m_allL 3 np 0 (mset S 44 0 2) else S
def m_run (S : yS) (np ns : Nat) : yS := m_pBegin (m_amL np 0 (m_pEnd S np ns)) ns
def m_pass (S : yS) (np ns no nr t : Nat) : Bool × yS := if m_doOrders S no 44 0 ≤ 0 then (if m_fault (m_readAll (m_doOrders S no) np nr) np nr ≤ 0 then (false, m_keep (m_run (m_readAll (m_doOrders S no) np nr) np ns) np t) else (true, m_keep (m_meet (m_readAll (m_doOrders S no) np nr) (m_fault (m_readAll (m_doOrders S no) np nr) np nr) np nr) np t)) else (false, m_keep (m_flash (m_doOrders S no) np) np t)
theorem m_doOrders_rw (S : yS) (no : Nat) : mRw lOrd S (m_doOrders S no) := m_ordL_rw no 0 0 S
section M9
variable {Z : (Nat → Prop) → State → Prop} {D : va_G} {dA : Nat → ClassId} {ad : Nat → Nat} {m0 : Nat} {S : yS} {np ns nd no nr t : Nat}
theorem mB_pBegin {S : yS} {np ns nd nr t : Nat} (hB : mB S np ns nd nr t) : mB (m_pBegin S ns) np ns nd nr t := by
  unfold m_pBegin
  repeat' split
  all_goals first | exact hB | skip
  unfold m_begin
  exact mB_fr (mB_fr (mB_fr (mB_fr (mB_since hB _) (mFr_set _ 0 _ (show mFk 36 = true from rfl))) (mFr_set _ 0 _ (show mFk 37 = true from rfl))) (mFr_set _ 0 _ (show mFk 39 = true from rfl))) (mFr_rw (m_pbL_rw _ 4 0 _) rfl)
set_option maxHeartbeats 4000000 in
set_option maxRecDepth 100000 in
theorem mc_pass (hZ : yZok D dA Z)  (hI : mI S np ns nd no nr t) (ht : t < 2 ^ 20) (h : yH) (hR : yMR dA ad m0 (S) h) : yM Z D yX9_pass cX9_pass 4 (some .boolean) 4 0 0 [.ref m0] h (fun r h' => r = some (.int (bI (m_pass S np ns no nr t).1)) ∧ yMR dA ad m0 ((m_pass S np ns no nr t).2) h') := by
  refine yM_of hZ (by decide) rfl (Nat.le_of_ble_eq_true rfl) ?_
  intro p l e s m args below meth c A C hr hin
  show yW p l e (yR 4 0 0) s m args below meth c 4 D A 0 0 _ 0 [some (.ref m0), none, none, none] [] h
  have h20 := hI
  have hB := mB_of_mI hI ht
  have k0 : S 1 0 = nI np ∧ np ≤ 8 := hI 0
  have h3 : S 23 0 = nI no ∧ no ≤ 16 := hI 3
  have h10 : ∀ k, k < no → ∃ p, p < np ∧ S 24 k = nI p := hI 10
  have r1 := m_doOrders_rw S no
  have hB1 : mB (m_doOrders S no) np ns nd nr t := mB_fr hB (mFr_rw r1 rfl)
  have r2 := m_readAll_rw (m_doOrders S no) np nr
  have hB2 : mB (m_readAll (m_doOrders S no) np nr) np ns nd nr t := mB_fr hB1 (mFr_rw r2 rfl)
  have k44 : ∀ k, k ∉ lOrd → k ∉ lRA → m_readAll (m_doOrders S no) np nr k = S k := fun k a b => (r2 k b).trans (r1 k a)
  have g34 : cO (m_readAll (m_doOrders S no) np nr 34 0) ns := by rw [k44 34 (by decide) (by decide)]; exact hI 12
  have r3 := m_pEnd_rw (m_readAll (m_doOrders S no) np nr) np ns
  have hB3 : mB (m_pEnd (m_readAll (m_doOrders S no) np nr) np ns) np ns nd nr t := mB_fr hB2 (mFr_rw r3 rfl)
  have tail : ∀ (met : Bool) (X : yS) (l2 : Option Value), mB X np ns nd nr t → met = (m_pass S np ns no nr t).1 → m_keep X np t = (m_pass S np ns no nr t).2 → ∀ h : yH, yMR dA ad m0 X h → yW p l e (yR 4 0 0) s m args below meth c 4 D A 0 0 (yF D A (fun r h' => r = some (.int (bI (m_pass S np ns no nr t).1)) ∧ yMR dA ad m0 ((m_pass S np ns no nr t).2) h') below args s 0 0) 140 [some (.ref m0), some (.int (bI met)), l2, none] [] h := by
    intro met X l2 hXB E1 E2 h hR
    refine yr_iconst 141 C (0) dX9_pass_140 rfl rfl ?_
    refine yr_istore2 142 C dX9_pass_141 (by decide) rfl ?_
    have loop142 : ∀ (j i : Nat) (V : yS), i + j = np → mB V np ns nd nr t → m_kpL t j i V = m_kpL t np 0 X → ∀ h : yH, yMR dA ad m0 (V) h → yW p l e (yR 4 0 0) s m args below meth c 4 D A 0 0 (yF D A (fun r h' => r = some (.int (bI (m_pass S np ns no nr t).1)) ∧ yMR dA ad m0 ((m_pass S np ns no nr t).2) h') below args s 0 0) 142 [some (.ref m0), some (.int (bI met)), some (.int (nI i)), none] [] h := by
      intro j
      induction j with
      | zero =>
        intro i V hij hV hf h hR
        have x0 : V 1 0 = nI np ∧ np ≤ 8 := hV 0
        have x3 : V 0 0 = nI t ∧ t < 2 ^ 20 ∧ nd ≤ 12 := hV 3
        have x2 : V 29 0 = nI nr ∧ nr ≤ 6 := hV 2
        refine yr_iload_n 143 C dX9_pass_142 rfl rfl ?_
        refine yr_aload_n 144 C dX9_pass_143 rfl rfl rfl ?_
        refine ym_get 147 C hR dX9_pass_144 fl_X9_120 (by decide) rfl rfl ?_
        rw [x0.1]
        refine yr_icmp_ge 179 150 C dX9_pass_147 (by decide) rfl (fun c147 => ?_) (fun c147 => ?_)
        rotate_left
        · exact absurd (nI_le (by omega) (by omega)) c147
        refine yr_aload_n 180 C dX9_pass_179 rfl rfl rfl ?_
        refine yr_dup 181 C dX9_pass_180 rfl rfl ?_
        refine ym_get 184 C hR dX9_pass_181 fl_X9_133 (by decide) rfl rfl ?_
        refine yr_iconst 185 C (1) dX9_pass_184 rfl rfl ?_
        refine yr_iadd 186 C dX9_pass_185 rfl ?_
        refine ym_put 189 C hR dX9_pass_186 fp_X9_133 (by decide) rfl rfl (fun h hR => ?_)
        refine yr_iload_n 190 C dX9_pass_189 rfl rfl ?_
        refine yr_zret C dX9_pass_190 hr ?_ (Nat.le_of_ble_eq_true rfl) (Nat.le_of_ble_eq_true rfl) ?_
        · exact bI_or _
        have hf2 : V = m_kpL t np 0 X := hf
        rw [hf2] at hR
        refine ⟨by rw [E1], ?_⟩
        rw [← E2]
        exact hR
      | succ j ih =>
        intro i V hij hV hf h hR
        have x0 : V 1 0 = nI np ∧ np ≤ 8 := hV 0
        have x3 : V 0 0 = nI t ∧ t < 2 ^ 20 ∧ nd ≤ 12 := hV 3
        have x2 : V 29 0 = nI nr ∧ nr ≤ 6 := hV 2
        refine yr_iload_n 143 C dX9_pass_142 rfl rfl ?_
        refine yr_aload_n 144 C dX9_pass_143 rfl rfl rfl ?_
        refine ym_get 147 C hR dX9_pass_144 fl_X9_120 (by decide) rfl rfl ?_
        rw [x0.1]
        refine yr_icmp_ge 179 150 C dX9_pass_147 (by decide) rfl (fun c147 => ?_) (fun c147 => ?_)
        · exact absurd c147 (nI_ge (by omega) (by omega))
        refine yr_aload_n 151 C dX9_pass_150 rfl rfl rfl ?_
        refine ym_getA 154 C hR dX9_pass_151 fl_X9_114 (by decide) rfl rfl ?_
        refine yr_bipush 156 C (8) dX9_pass_154 rfl rfl ?_
        refine yr_aload_n 157 C dX9_pass_156 rfl rfl rfl ?_
        refine ym_get 160 C hR dX9_pass_157 fl_X9_133 (by decide) rfl rfl ?_
        refine yr_bipush 162 C (61) dX9_pass_160 rfl rfl ?_
        refine yr_irem 163 C dX9_pass_162 ?_ rfl ?_
        · decide
        rw [x3.1, show nI t - nI t / 61 * 61 = nI (t % 61) from pk_rem (d := 61) (by omega) (by decide) (by decide)]
        have hmod : t % 61 < 61 := Nat.mod_lt _ (by decide)
        refine yr_imul 164 C dX9_pass_163 rfl ?_
        refine yr_iload_n 165 C dX9_pass_164 rfl rfl ?_
        refine yr_iadd 166 C dX9_pass_165 rfl ?_
        refine yr_aload_n 167 C dX9_pass_166 rfl rfl rfl ?_
        refine ym_getA 170 C hR dX9_pass_167 fl_X9_13 (by decide) rfl rfl ?_
        refine yr_iload_n 171 C dX9_pass_170 rfl rfl ?_
        refine ym_aldN 172 C hR dX9_pass_171 (by decide) rfl rfl ?_ rfl ?_
        · simp only [mL]; omega
        rw [show (8 : Int32) * nI (t % 61) + nI i = nI (8 * (t % 61) + i) from ixm]
        refine ym_astN 173 C hR dX9_pass_172 (by decide) rfl rfl ?_ rfl (fun h hR => ?_)
        · simp only [mL]; omega
        refine yr_iinc2 176 C (1) dX9_pass_173 rfl (by decide) rfl ?_
        rw [nI_1]
        refine yr_goto 142 C dX9_pass_176 (by decide) ?_
        exact ih (i + 1) _ (by omega) (mB_fr hV (mFr_set V _ _ (show mFk 51 = true from rfl))) hf h hR
    exact loop142 np 0 X (by omega) hXB rfl h hR
  refine yr_iconst 1 C (0) dX9_pass_0 rfl rfl ?_
  refine yr_istore1 2 C dX9_pass_1 (by decide) rfl ?_
  refine yr_aload_n 3 C dX9_pass_2 rfl rfl rfl ?_
  refine yr_V0u 6 C (mc_doOrders hZ hB h3 h10 _ hR) dX9_pass_3 mt_X9_doOrders mv_X9_doOrders ml_X9_236 hR.1 rfl (Nat.le_of_ble_eq_true rfl) (Nat.le_of_ble_eq_true rfl) (Nat.le_of_ble_eq_true rfl) (Nat.le_of_ble_eq_true rfl) (Nat.le_of_ble_eq_true rfl) rfl (fun h hR => ?_)
  refine yr_aload_n 7 C dX9_pass_6 rfl rfl rfl ?_
  refine ym_get 10 C hR dX9_pass_7 fl_X9_159 (by decide) rfl rfl ?_
  refine yr_if_le 56 13 C dX9_pass_10 (by decide) rfl (fun c10 => ?_) (fun c10 => ?_)
  · refine yr_aload_n 57 C dX9_pass_56 rfl rfl rfl ?_
    refine yr_V0u 60 C (mc_readAll hZ hB1 _ hR) dX9_pass_57 mt_X9_readAll mv_X9_readAll ml_X9_239 hR.1 rfl (Nat.le_of_ble_eq_true rfl) (Nat.le_of_ble_eq_true rfl) (Nat.le_of_ble_eq_true rfl) (Nat.le_of_ble_eq_true rfl) (Nat.le_of_ble_eq_true rfl) rfl (fun h hR => ?_)
    refine yr_aload_n 61 C dX9_pass_60 rfl rfl rfl ?_
    refine yr_V0v 64 C (mc_faultNow hZ hB2 _ hR) dX9_pass_61 mt_X9_faultNow mv_X9_faultNow ml_X9_242 hR.1 rfl (Nat.le_of_ble_eq_true rfl) (Nat.le_of_ble_eq_true rfl) (Nat.le_of_ble_eq_true rfl) (Nat.le_of_ble_eq_true rfl) (Nat.le_of_ble_eq_true rfl) rfl (fun h hR => ?_)
    refine yr_istore2 65 C dX9_pass_64 (by decide) rfl ?_
    refine yr_iload_n 66 C dX9_pass_65 rfl rfl ?_
    refine yr_if_le 73 69 C dX9_pass_66 (by decide) rfl (fun c66 => ?_) (fun c66 => ?_)
    · refine yr_iconst 74 C (0) dX9_pass_73 rfl rfl ?_
      skip
      refine yr_istore1 75 C dX9_pass_74 (by decide) rfl ?_
      refine yr_iload_n 76 C dX9_pass_75 rfl rfl ?_
      refine yr_if_eq 87 79 C dX9_pass_76 (by decide) rfl (fun c76 => ?_) (fun c76 => ?_)
      rotate_left
      · exact absurd (by decide) c76
      refine yr_aload_n 88 C dX9_pass_87 rfl rfl rfl ?_
      refine yr_V0u 91 C (mc_perhapsEnd hZ hB2 g34 _ hR) dX9_pass_88 mt_X9_perhapsEnd mv_X9_perhapsEnd ml_X9_249 hR.1 rfl (Nat.le_of_ble_eq_true rfl) (Nat.le_of_ble_eq_true rfl) (Nat.le_of_ble_eq_true rfl) (Nat.le_of_ble_eq_true rfl) (Nat.le_of_ble_eq_true rfl) rfl (fun h hR => ?_)
      refine yr_iconst 92 C (0) dX9_pass_91 rfl rfl ?_
      refine yr_istore3 93 C dX9_pass_92 (by decide) rfl ?_
      have loop93 : ∀ (j i : Nat) (X : yS), i + j = np → mB X np ns nd nr t → m_amL j i X = m_amL np 0 (m_pEnd (m_readAll (m_doOrders S no) np nr) np ns) → ∀ h : yH, yMR dA ad m0 (X) h → yW p l e (yR 4 0 0) s m args below meth c 4 D A 0 0 (yF D A (fun r h' => r = some (.int (bI (m_pass S np ns no nr t).1)) ∧ yMR dA ad m0 ((m_pass S np ns no nr t).2) h') below args s 0 0) 93 [some (.ref m0), some (.int 0), some (.int (m_fault (m_readAll (m_doOrders S no) np nr) np nr)), some (.int (nI i))] [] h := by
        intro j
        induction j with
        | zero =>
          intro i X hij hX he h hR
          have x0 : X 1 0 = nI np ∧ np ≤ 8 := hX 0
          have x3 : X 0 0 = nI t ∧ t < 2 ^ 20 ∧ nd ≤ 12 := hX 3
          have x2 : X 29 0 = nI nr ∧ nr ≤ 6 := hX 2
          refine yr_iload_n 94 C dX9_pass_93 rfl rfl ?_
          refine yr_aload_n 95 C dX9_pass_94 rfl rfl rfl ?_
          refine ym_get 98 C hR dX9_pass_95 fl_X9_120 (by decide) rfl rfl ?_
          rw [x0.1]
          refine yr_icmp_ge 136 101 C dX9_pass_98 (by decide) rfl (fun c98 => ?_) (fun c98 => ?_)
          rotate_left
          · exact absurd (nI_le (by omega) (by omega)) c98
          have he2 : X = m_amL np 0 (m_pEnd (m_readAll (m_doOrders S no) np nr) np ns) := he
          have x39 : X 39 = S 39 := by rw [he2, m_amL_rw np 0 _ 39 (by decide), r3 39 (by decide)]; exact k44 39 (by decide) (by decide)
          have x38 : X 38 = S 38 := by rw [he2, m_amL_rw np 0 _ 38 (by decide), r3 38 (by decide)]; exact k44 38 (by decide) (by decide)
          refine yr_aload_n 137 C dX9_pass_136 rfl rfl rfl ?_
          refine yr_V0u 140 C (mc_perhapsBegin hZ hX (by rw [x39]; exact hI 13) (by rw [x38]; exact hI 14) _ hR) dX9_pass_137 mt_X9_perhapsBegin mv_X9_perhapsBegin ml_X9_252 hR.1 rfl (Nat.le_of_ble_eq_true rfl) (Nat.le_of_ble_eq_true rfl) (Nat.le_of_ble_eq_true rfl) (Nat.le_of_ble_eq_true rfl) (Nat.le_of_ble_eq_true rfl) rfl (fun h hR => ?_)
          have HB9 : mB (m_pBegin X ns) np ns nd nr t := mB_pBegin hX
          skip
          refine yr_forget3 ?_
          exact tail false _ _ HB9 (by simp [m_pass, c10, c66]) (by simp [m_pass, m_run, c10, c66, ← he2]) h hR
        | succ j ih =>
          intro i X hij hX he h hR
          have x0 : X 1 0 = nI np ∧ np ≤ 8 := hX 0
          have x3 : X 0 0 = nI t ∧ t < 2 ^ 20 ∧ nd ≤ 12 := hX 3
          have x2 : X 29 0 = nI nr ∧ nr ≤ 6 := hX 2
          refine yr_iload_n 94 C dX9_pass_93 rfl rfl ?_
          refine yr_aload_n 95 C dX9_pass_94 rfl rfl rfl ?_
          refine ym_get 98 C hR dX9_pass_95 fl_X9_120 (by decide) rfl rfl ?_
          rw [x0.1]
          refine yr_icmp_ge 136 101 C dX9_pass_98 (by decide) rfl (fun c98 => ?_) (fun c98 => ?_)
          · exact absurd c98 (nI_ge (by omega) (by omega))
          refine yr_aload_n 102 C dX9_pass_101 rfl rfl rfl ?_
          refine ym_getA 105 C hR dX9_pass_102 fl_X9_13 (by decide) rfl rfl ?_
          refine yr_iload_n 106 C dX9_pass_105 rfl rfl ?_
          refine ym_aldN 107 C hR dX9_pass_106 (by decide) rfl rfl ?_ rfl ?_
          · simp only [mL]; omega
          refine yr_iconst 108 C (2) dX9_pass_107 rfl rfl ?_
          refine yr_icmp_ne 130 111 C dX9_pass_108 (by decide) rfl (fun c108 => ?_) (fun c108 => ?_)
          · refine yr_iinc3 133 C (1) dX9_pass_130 rfl (by decide) rfl ?_
            rw [nI_1]
            refine yr_goto 93 C dX9_pass_133 (by decide) ?_
            exact ih (i + 1) _ (by omega) (mB_fr hX (mFr_rw (m_am_rw X i) rfl)) he h (by simpa [m_am, c10, c66, c108] using hR)
          · refine yr_aload_n 112 C dX9_pass_111 rfl rfl rfl ?_
            refine ym_getA 115 C hR dX9_pass_112 fl_X9_28 (by decide) rfl rfl ?_
            refine yr_iload_n 116 C dX9_pass_115 rfl rfl ?_
            refine ym_aldN 117 C hR dX9_pass_116 (by decide) rfl rfl ?_ rfl ?_
            · simp only [mL]; omega
            refine yr_aload_n 118 C dX9_pass_117 rfl rfl rfl ?_
            refine ym_get 121 C hR dX9_pass_118 fl_X9_133 (by decide) rfl rfl ?_
            refine yr_icmp_gt 130 124 C dX9_pass_121 (by decide) rfl (fun c121 => ?_) (fun c121 => ?_)
            · refine yr_iinc3 133 C (1) dX9_pass_130 rfl (by decide) rfl ?_
              rw [nI_1]
              refine yr_goto 93 C dX9_pass_133 (by decide) ?_
              exact ih (i + 1) _ (by omega) (mB_fr hX (mFr_rw (m_am_rw X i) rfl)) he h (by simpa [m_am, c10, c66, c108, c121] using hR)
            · refine yr_aload_n 125 C dX9_pass_124 rfl rfl rfl ?_
              refine yr_iload_n 126 C dX9_pass_125 rfl rfl ?_
              refine yr_iconst 127 C (0) dX9_pass_126 rfl rfl ?_
              refine yr_V2u 130 C (mc_change hZ _ (by omega) _ hX _ hR) dX9_pass_127 mt_X9_change mv_X9_change ml_X9_213 hR.1 rfl (Nat.le_of_ble_eq_true rfl) (Nat.le_of_ble_eq_true rfl) (Nat.le_of_ble_eq_true rfl) (Nat.le_of_ble_eq_true rfl) (Nat.le_of_ble_eq_true rfl) rfl (fun h hR => ?_)
              refine yr_iinc3 133 C (1) dX9_pass_130 rfl (by decide) rfl ?_
              rw [nI_1]
              refine yr_goto 93 C dX9_pass_133 (by decide) ?_
              exact ih (i + 1) _ (by omega) (mB_fr hX (mFr_rw (m_am_rw X i) rfl)) he h (by simpa [m_am, c10, c66, c108, c121] using hR)
      exact loop93 np 0 _ (by omega) hB3 rfl h hR
    · refine yr_iconst 70 C (1) dX9_pass_69 rfl rfl ?_
      refine yr_goto 74 C dX9_pass_70 (by decide) ?_
      rw [show (1 : Int32) = bI true from rfl]
      refine yr_istore1 75 C dX9_pass_74 (by decide) rfl ?_
      refine yr_iload_n 76 C dX9_pass_75 rfl rfl ?_
      refine yr_if_eq 87 79 C dX9_pass_76 (by decide) rfl (fun c76 => ?_) (fun c76 => ?_)
      · exact absurd c76 (by decide)
      refine yr_aload_n 80 C dX9_pass_79 rfl rfl rfl ?_
      refine yr_iload_n 81 C dX9_pass_80 rfl rfl ?_
      refine yr_V1u 84 C (mc_meetFault hZ _ hB2 _ hR) dX9_pass_81 mt_X9_meetFault mv_X9_meetFault ml_X9_245 hR.1 rfl (Nat.le_of_ble_eq_true rfl) (Nat.le_of_ble_eq_true rfl) (Nat.le_of_ble_eq_true rfl) (Nat.le_of_ble_eq_true rfl) (Nat.le_of_ble_eq_true rfl) rfl (fun h hR => ?_)
      refine yr_goto 140 C dX9_pass_84 (by decide) ?_
      skip
      refine yr_forget3 ?_
      exact tail true _ _ (mB_fr hB2 (mFr_rw (m_meet_rw _ _ np nr) rfl)) (by simp [m_pass, c10, c66]) (by simp [m_pass, c10, c66]) h hR
  · refine yr_aload_n 14 C dX9_pass_13 rfl rfl rfl ?_
    refine ym_get 17 C hR dX9_pass_14 fl_X9_133 (by decide) rfl rfl ?_
    refine yr_aload_n 18 C dX9_pass_17 rfl rfl rfl ?_
    refine ym_get 21 C hR dX9_pass_18 fl_X9_105 (by decide) rfl rfl ?_
    refine yr_iconst 22 C (3) dX9_pass_21 rfl rfl ?_
    refine yr_iadd 23 C dX9_pass_22 rfl ?_
    refine yr_icmp_ne 140 26 C dX9_pass_23 (by decide) rfl (fun c23 => ?_) (fun c23 => ?_)
    · skip
      refine yr_forget3 ?_
      exact tail false _ _ hB1 (by simp [m_pass, c10]) (by simp [m_pass, m_flash, c10, c23]) h hR
    · refine yr_aload_n 27 C dX9_pass_26 rfl rfl rfl ?_
      refine yr_iconst 28 C (2) dX9_pass_27 rfl rfl ?_
      refine ym_put 31 C hR dX9_pass_28 fp_X9_159 (by decide) rfl rfl (fun h hR => ?_)
      refine yr_iconst 32 C (0) dX9_pass_31 rfl rfl ?_
      refine yr_istore2 33 C dX9_pass_32 (by decide) rfl ?_
      have loop33 : ∀ (j i : Nat) (X : yS), i + j = np → mB X np ns nd nr t → m_allL 3 j i X = m_allL 3 np 0 (mset (m_doOrders S no) 44 0 2) → ∀ h : yH, yMR dA ad m0 (X) h → yW p l e (yR 4 0 0) s m args below meth c 4 D A 0 0 (yF D A (fun r h' => r = some (.int (bI (m_pass S np ns no nr t).1)) ∧ yMR dA ad m0 ((m_pass S np ns no nr t).2) h') below args s 0 0) 33 [some (.ref m0), some (.int 0), some (.int (nI i)), none] [] h := by
        intro j
        induction j with
        | zero =>
          intro i X hij hX he h hR
          have x0 : X 1 0 = nI np ∧ np ≤ 8 := hX 0
          have x3 : X 0 0 = nI t ∧ t < 2 ^ 20 ∧ nd ≤ 12 := hX 3
          have x2 : X 29 0 = nI nr ∧ nr ≤ 6 := hX 2
          refine yr_iload_n 34 C dX9_pass_33 rfl rfl ?_
          refine yr_aload_n 35 C dX9_pass_34 rfl rfl rfl ?_
          refine ym_get 38 C hR dX9_pass_35 fl_X9_120 (by decide) rfl rfl ?_
          rw [x0.1]
          refine yr_icmp_ge 53 41 C dX9_pass_38 (by decide) rfl (fun c38 => ?_) (fun c38 => ?_)
          rotate_left
          · exact absurd (nI_le (by omega) (by omega)) c38
          refine yr_goto 140 C dX9_pass_53 (by decide) ?_
          skip
          have he2 : X = m_allL 3 np 0 (mset (m_doOrders S no) 44 0 2) := he
          refine yr_forget3 ?_
          exact tail false X _ hX (by simp [m_pass, c10]) (by simp [m_pass, m_flash, c10, c23, he2]) h hR
        | succ j ih =>
          intro i X hij hX he h hR
          have x0 : X 1 0 = nI np ∧ np ≤ 8 := hX 0
          have x3 : X 0 0 = nI t ∧ t < 2 ^ 20 ∧ nd ≤ 12 := hX 3
          have x2 : X 29 0 = nI nr ∧ nr ≤ 6 := hX 2
          refine yr_iload_n 34 C dX9_pass_33 rfl rfl ?_
          refine yr_aload_n 35 C dX9_pass_34 rfl rfl rfl ?_
          refine ym_get 38 C hR dX9_pass_35 fl_X9_120 (by decide) rfl rfl ?_
          rw [x0.1]
          refine yr_icmp_ge 53 41 C dX9_pass_38 (by decide) rfl (fun c38 => ?_) (fun c38 => ?_)
          · exact absurd c38 (nI_ge (by omega) (by omega))
          refine yr_aload_n 42 C dX9_pass_41 rfl rfl rfl ?_
          refine yr_iload_n 43 C dX9_pass_42 rfl rfl ?_
          refine yr_iconst 44 C (3) dX9_pass_43 rfl rfl ?_
          refine yr_V2u 47 C (mc_change hZ _ (by omega) _ hX _ hR) dX9_pass_44 mt_X9_change mv_X9_change ml_X9_213 hR.1 rfl (Nat.le_of_ble_eq_true rfl) (Nat.le_of_ble_eq_true rfl) (Nat.le_of_ble_eq_true rfl) (Nat.le_of_ble_eq_true rfl) (Nat.le_of_ble_eq_true rfl) rfl (fun h hR => ?_)
          refine yr_iinc2 50 C (1) dX9_pass_47 rfl (by decide) rfl ?_
          rw [nI_1]
          refine yr_goto 33 C dX9_pass_50 (by decide) ?_
          exact ih (i + 1) _ (by omega) (mB_fr hX (m_change_fr X i 3)) he h hR
      exact loop33 np 0 _ (by omega) (mB_fr hB1 (mFr_set _ 0 2 (show mFk 44 = true from rfl))) rfl h hR
end M9
