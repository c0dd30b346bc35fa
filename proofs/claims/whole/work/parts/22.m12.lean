def m_four (S : yS) (a b c d : Int32) : yS := mset (mset (mset (mset S 52 0 a) 52 1 b) 52 2 c) 52 3 d
theorem m_four_rw (S : yS) (a b c d : Int32) : mRw [52] S (m_four S a b c d) := mRw_tr (mRw_tr (mRw_tr (mRw_set S _ _ rfl) (mRw_set _ _ _ rfl)) (mRw_set _ _ _ rfl)) (mRw_set _ _ _ rfl)
def m_stI (X : yS) (p : Int32) : Nat → Nat → Bool → Option Bool
  | 0, _, m => some m
  | j + 1, k, m => if X 52 k = p then none else m_stI X p j (k + 1) (m || (!decide (X 52 k = -5) && m_meets X (ix p) (ix (X 52 k))))
def m_stO (X : yS) : Nat → Nat → Bool → Bool → Option (Bool × Bool)
  | 0, _, a, m => some (a, m)
  | j + 1, i, a, m => if X 52 i = -5 then m_stO X j (i + 1) a m else if m_isP X (X 52 i) then (match m_stI X (X 52 i) i 0 m with | none => none | some m2 => m_stO X j (i + 1) true m2) else none
def m_plL (n : Nat) : Nat → Nat → yS → yS
  | 0, _, V => V
  | j + 1, i, V => m_plL n j (i + 1) (mset V 18 (4 * n + i) (V 52 i))
theorem m_plL_rw (n : Nat) : ∀ (j i : Nat) (S : yS), mRw [18] S (m_plL n j i S)
  | 0, _, S => mRw_rf S
  | j + 1, i, S => mRw_tr (mRw_set S _ _ rfl) (m_plL_rw n j (i + 1) _)
def m_st2 (X : yS) (any me : Bool) : Int32 × yS := if any then (if X 0 0 ≤ 0 then (if me then (-4, X) else if X 17 0 = 6 then (-2, X) else (X 17 0 + 1 - 1, mset (m_plL (ix (X 17 0)) 4 0 X) 17 0 (X 17 0 + 1))) else (-3, X)) else (-1, X)
def sp_stage (S : yS) (a b c d : Int32) : Int32 × yS := match m_stO (m_four S a b c d) 4 0 false false with
  | none => (-1, m_four S a b c d)
  | some (any, me) => m_st2 (m_four S a b c d) any me
theorem m_isP_nI {X : yS} {np : Nat} (h : X 1 0 = nI np ∧ np ≤ 8) {q : Int32} (hq : m_isP X q = true) : ∃ j : Nat, j < np ∧ q = nI j := by
  unfold m_isP at hq
  rw [h.1] at hq
  exact m_in_ix (by omega) hq
section M12
variable {Z : (Nat → Prop) → State → Prop} {D : va_G} {dA : Nat → ClassId} {ad : Nat → Nat} {m0 : Nat} {S : yS} {np ns nd no nr t : Nat}
set_option maxHeartbeats 4000000 in
set_option maxRecDepth 100000 in
theorem mc_stage (hZ : yZok D dA Z) (a b f g : Int32) (hI : mI S np ns nd no nr t) (ht : t < 2 ^ 20) (h : yH) (hR : yMR dA ad m0 (S) h) : yM Z D yX9_stage cX9_stage 10 (some .int) 2 0 0 [.ref m0, .int a, .int b, .int f, .int g] h (fun r h' => r = some (.int (sp_stage S a b f g).1) ∧ yMR dA ad m0 ((sp_stage S a b f g).2) h') := by
  refine yM_of hZ (by decide) rfl (Nat.le_of_ble_eq_true rfl) ?_
  intro p l e s m args below meth c A C hr hin
  show yW p l e (yR 2 0 0) s m args below meth c 10 D A 0 0 _ 0 [some (.ref m0), some (.int a), some (.int b), some (.int f), some (.int g), none, none, none, none, none] [] h
  have hB := mB_of_mI hI ht
  have h0 : S 1 0 = nI np ∧ np ≤ 8 := hI 0
  have h1 : S 17 0 = nI ns ∧ ns ≤ 6 := hI 1
  have h5 : S 0 0 = nI t := hI 5
  have ep : ix (S 1 0) = np := by rw [h0.1]; exact ix_nI (by omega)
  have es : ix (S 17 0) = ns := by rw [h1.1]; exact ix_nI (by omega)
  have et : ix (S 0 0) = t := by rw [h5]; exact ix_nI (by omega)
  refine yr_aload_n 1 C dX9_stage_0 rfl rfl rfl ?_
  refine ym_getA 4 C hR dX9_stage_1 fl_X9_117 (by decide) rfl rfl ?_
  skip
  refine yr_iconst 5 C (0) dX9_stage_4 rfl rfl ?_
  refine yr_iload_n 6 C dX9_stage_5 rfl rfl ?_
  rw [show (0 : Int32) = nI 0 from rfl]
  refine ym_astN 7 C hR dX9_stage_6 (by decide) rfl rfl ?_ rfl (fun h hR => ?_)
  · decide
  refine yr_aload_n 8 C dX9_stage_7 rfl rfl rfl ?_
  refine ym_getA 11 C hR dX9_stage_8 fl_X9_117 (by decide) rfl rfl ?_
  refine yr_iconst 12 C (1) dX9_stage_11 rfl rfl ?_
  refine yr_iload_n 13 C dX9_stage_12 rfl rfl ?_
  rw [show (1 : Int32) = nI 1 from rfl]
  refine ym_astN 14 C hR dX9_stage_13 (by decide) rfl rfl ?_ rfl (fun h hR => ?_)
  · decide
  refine yr_aload_n 15 C dX9_stage_14 rfl rfl rfl ?_
  refine ym_getA 18 C hR dX9_stage_15 fl_X9_117 (by decide) rfl rfl ?_
  refine yr_iconst 19 C (2) dX9_stage_18 rfl rfl ?_
  refine yr_iload_n 20 C dX9_stage_19 rfl rfl ?_
  rw [show (2 : Int32) = nI 2 from rfl]
  refine ym_astN 21 C hR dX9_stage_20 (by decide) rfl rfl ?_ rfl (fun h hR => ?_)
  · decide
  refine yr_aload_n 22 C dX9_stage_21 rfl rfl rfl ?_
  refine ym_getA 25 C hR dX9_stage_22 fl_X9_117 (by decide) rfl rfl ?_
  refine yr_iconst 26 C (3) dX9_stage_25 rfl rfl ?_
  refine yr_iload 28 C dX9_stage_26 rfl rfl ?_
  rw [show (3 : Int32) = nI 3 from rfl]
  refine ym_astN 29 C hR dX9_stage_28 (by decide) rfl rfl ?_ rfl (fun h hR => ?_)
  · decide
  obtain ⟨X, eX⟩ : ∃ X, X = m_four S a b f g := ⟨_, rfl⟩
  replace hR : yMR dA ad m0 X h := by rw [eX]; exact hR
  have hrw : mRw [52] S X := by rw [eX]; exact m_four_rw S a b f g
  have x0 : X 1 0 = nI np ∧ np ≤ 8 := by rw [hrw 1 (by decide)]; exact h0
  have x1 : X 17 0 = nI ns ∧ ns ≤ 6 := by rw [hrw 17 (by decide)]; exact h1
  have ex1 : ix (X 17 0) = ns := by rw [x1.1]; exact ix_nI (by omega)
  refine yr_iconst 30 C (0) dX9_stage_29 rfl rfl ?_
  refine yr_istore5 32 C dX9_stage_30 (by decide) rfl ?_
  refine yr_iconst 33 C (0) dX9_stage_32 rfl rfl ?_
  refine yr_istore6 35 C dX9_stage_33 (by decide) rfl ?_
  refine yr_iconst 36 C (0) dX9_stage_35 rfl rfl ?_
  refine yr_istore7 38 C dX9_stage_36 (by decide) rfl ?_
  have loop38 : ∀ (j i : Nat) (an me : Bool), i + j = 4 → m_stO X j i an me = m_stO X 4 0 false false → (∀ k, k < i → cO (X 52 k) np) → ∀ h : yH, yMR dA ad m0 (X) h → yW p l e (yR 2 0 0) s m args below meth c 10 D A 0 0 (yF D A (fun r h' => r = some (.int (sp_stage S a b f g).1) ∧ yMR dA ad m0 ((sp_stage S a b f g).2) h') below args s 0 0) 38 [some (.ref m0), some (.int a), some (.int b), some (.int f), some (.int g), some (.int (bI an)), some (.int (bI me)), some (.int (nI i)), none, none] [] h := by
    intro j
    induction j with
    | zero =>
      intro i an me hij he hv h hR
      obtain rfl : i = 4 := by omega
      have he2 : some (an, me) = m_stO X 4 0 false false := he
      refine yr_iload 40 C dX9_stage_38 rfl rfl ?_
      refine yr_iconst 41 C (4) dX9_stage_40 rfl rfl ?_
      refine yr_icmp_ge 151 44 C dX9_stage_41 (by decide) rfl (fun c41 => ?_) (fun c41 => ?_)
      rotate_left
      · exact absurd (by decide) c41
      refine yr_iload 153 C dX9_stage_151 rfl rfl ?_
      refine yb_ne 158 156 C dX9_stage_153 (by decide) rfl (fun c153 => ?_) (fun c153 => ?_)
      · refine yr_aload_n 159 C dX9_stage_158 rfl rfl rfl ?_
        refine ym_get 162 C hR dX9_stage_159 fl_X9_133 (by decide) rfl rfl ?_
        refine yr_if_le 168 165 C dX9_stage_162 (by decide) rfl (fun c162 => ?_) (fun c162 => ?_)
        · refine yr_iload 170 C dX9_stage_168 rfl rfl ?_
          refine yb_eq 176 173 C dX9_stage_170 (by decide) rfl (fun c170 => ?_) (fun c170 => ?_)
          · refine yr_aload_n 177 C dX9_stage_176 rfl rfl rfl ?_
            refine ym_get 180 C hR dX9_stage_177 fl_X9_127 (by decide) rfl rfl ?_
            refine yr_bipush 182 C (6) dX9_stage_180 rfl rfl ?_
            refine yr_icmp_ne 188 185 C dX9_stage_182 (by decide) rfl (fun c182 => ?_) (fun c182 => ?_)
            · have hs6 : ns < 6 := by
                have : ns ≠ 6 := fun e => c182 (by rw [x1.1, e]; rfl)
                omega
              refine yr_iconst 189 C (0) dX9_stage_188 rfl rfl ?_
              refine yr_istore7 191 C dX9_stage_189 (by decide) rfl ?_
              have loop191 : ∀ (j i : Nat) (V : yS), i + j = 4 → V 17 0 = nI ns → m_plL ns j i V = m_plL ns 4 0 X → ∀ h : yH, yMR dA ad m0 (V) h → yW p l e (yR 2 0 0) s m args below meth c 10 D A 0 0 (yF D A (fun r h' => r = some (.int (sp_stage S a b f g).1) ∧ yMR dA ad m0 ((sp_stage S a b f g).2) h') below args s 0 0) 191 [some (.ref m0), some (.int a), some (.int b), some (.int f), some (.int g), some (.int (bI an)), some (.int (bI me)), some (.int (nI i)), none, none] [] h := by
                intro j
                induction j with
                | zero =>
                  intro i V hij hv17 hf h hR
                  obtain rfl : i = 4 := by omega
                  have hf2 : V = m_plL ns 4 0 X := hf
                  refine yr_iload 193 C dX9_stage_191 rfl rfl ?_
                  refine yr_iconst 194 C (4) dX9_stage_193 rfl rfl ?_
                  refine yr_icmp_ge 224 197 C dX9_stage_194 (by decide) rfl (fun c194 => ?_) (fun c194 => ?_)
                  rotate_left
                  · exact absurd (by decide) c194
                  refine yr_aload_n 225 C dX9_stage_224 rfl rfl rfl ?_
                  refine yr_dup 226 C dX9_stage_225 rfl rfl ?_
                  refine ym_get 229 C hR dX9_stage_226 fl_X9_127 (by decide) rfl rfl ?_
                  refine yr_iconst 230 C (1) dX9_stage_229 rfl rfl ?_
                  refine yr_iadd 231 C dX9_stage_230 rfl ?_
                  refine ym_put 234 C hR dX9_stage_231 fp_X9_127 (by decide) rfl rfl (fun h hR => ?_)
                  refine yr_aload_n 235 C dX9_stage_234 rfl rfl rfl ?_
                  refine ym_get 238 C hR dX9_stage_235 fl_X9_127 (by decide) rfl rfl ?_
                  refine yr_iconst 239 C (1) dX9_stage_238 rfl rfl ?_
                  refine yr_isub 240 C dX9_stage_239 rfl ?_
                  refine yr_iret C dX9_stage_240 hr (Nat.le_of_ble_eq_true rfl) (Nat.le_of_ble_eq_true rfl) ?_
                  have e6 : sp_stage S a b f g = m_st2 X an me := by unfold sp_stage; rw [← eX, ← he2]
                  rw [e6]
                  have e8 : V 17 0 = X 17 0 := by rw [hv17, x1.1]
                  rw [mset_same]
                  rw [hf2] at hR e8
                  rw [e8] at hR
                  exact ⟨by rw [hf2, e8]; simp [m_st2, c153, c162, c170, c182], by simpa [m_st2, ex1, c153, c162, c170, c182] using hR⟩
                | succ j ih =>
                  intro i V hij hv17 hf h hR
                  refine yr_iload 193 C dX9_stage_191 rfl rfl ?_
                  refine yr_iconst 194 C (4) dX9_stage_193 rfl rfl ?_
                  refine yr_icmp_ge 224 197 C dX9_stage_194 (by decide) rfl (fun c194 => ?_) (fun c194 => ?_)
                  · exact absurd c194 (nI_ge (b := 4) (by omega) (by decide))
                  refine yr_aload_n 198 C dX9_stage_197 rfl rfl rfl ?_
                  refine ym_getA 201 C hR dX9_stage_198 fl_X9_56 (by decide) rfl rfl ?_
                  refine yr_iconst 202 C (4) dX9_stage_201 rfl rfl ?_
                  refine yr_aload_n 203 C dX9_stage_202 rfl rfl rfl ?_
                  refine ym_get 206 C hR dX9_stage_203 fl_X9_127 (by decide) rfl rfl ?_
                  rw [hv17]
                  refine yr_imul 207 C dX9_stage_206 rfl ?_
                  refine yr_iload 209 C dX9_stage_207 rfl rfl ?_
                  refine yr_iadd 210 C dX9_stage_209 rfl ?_
                  refine yr_aload_n 211 C dX9_stage_210 rfl rfl rfl ?_
                  refine ym_getA 214 C hR dX9_stage_211 fl_X9_117 (by decide) rfl rfl ?_
                  refine yr_iload 216 C dX9_stage_214 rfl rfl ?_
                  refine ym_aldN 217 C hR dX9_stage_216 (by decide) rfl rfl ?_ rfl ?_
                  · simp only [mL]; omega
                  rw [show (4 : Int32) * nI ns + nI i = nI (4 * ns + i) from ixm]
                  refine ym_astN 218 C hR dX9_stage_217 (by decide) rfl rfl ?_ rfl (fun h hR => ?_)
                  · simp only [mL]; omega
                  refine yr_iinc7 221 C (1) dX9_stage_218 rfl (by decide) rfl ?_
                  rw [nI_1]
                  refine yr_goto 191 C dX9_stage_221 (by decide) ?_
                  exact ih (i + 1) _ (by omega) (by rw [mset_ne _ _ (by decide)]; exact hv17) hf h hR
              exact loop191 4 0 X rfl x1.1 rfl h hR
            · refine yr_bipush 187 C (-2) dX9_stage_185 rfl rfl ?_
              refine yr_iret C dX9_stage_187 hr (Nat.le_of_ble_eq_true rfl) (Nat.le_of_ble_eq_true rfl) ?_
              have e6 : sp_stage S a b f g = m_st2 X an me := by unfold sp_stage; rw [← eX, ← he2]
              rw [e6]
              exact ⟨by simp [m_st2, c153, c162, c170, c182], by simpa [m_st2, c153, c162, c170, c182] using hR⟩
          · refine yr_bipush 175 C (-4) dX9_stage_173 rfl rfl ?_
            refine yr_iret C dX9_stage_175 hr (Nat.le_of_ble_eq_true rfl) (Nat.le_of_ble_eq_true rfl) ?_
            have e6 : sp_stage S a b f g = m_st2 X an me := by unfold sp_stage; rw [← eX, ← he2]
            rw [e6]
            exact ⟨by simp [m_st2, c153, c162, c170], by simpa [m_st2, c153, c162, c170] using hR⟩
        · refine yr_bipush 167 C (-3) dX9_stage_165 rfl rfl ?_
          refine yr_iret C dX9_stage_167 hr (Nat.le_of_ble_eq_true rfl) (Nat.le_of_ble_eq_true rfl) ?_
          have e6 : sp_stage S a b f g = m_st2 X an me := by unfold sp_stage; rw [← eX, ← he2]
          rw [e6]
          exact ⟨by simp [m_st2, c153, c162], by simpa [m_st2, c153, c162] using hR⟩
      · refine yr_iconst 157 C (-1) dX9_stage_156 rfl rfl ?_
        refine yr_iret C dX9_stage_157 hr (Nat.le_of_ble_eq_true rfl) (Nat.le_of_ble_eq_true rfl) ?_
        have e6 : sp_stage S a b f g = m_st2 X an me := by unfold sp_stage; rw [← eX, ← he2]
        rw [e6]
        exact ⟨by simp [m_st2, c153], by simpa [m_st2, c153] using hR⟩
    | succ j ih =>
      intro i an me hij he hv h hR
      refine yr_iload 40 C dX9_stage_38 rfl rfl ?_
      refine yr_iconst 41 C (4) dX9_stage_40 rfl rfl ?_
      refine yr_icmp_ge 151 44 C dX9_stage_41 (by decide) rfl (fun c41 => ?_) (fun c41 => ?_)
      · exact absurd c41 (nI_ge (b := 4) (by omega) (by decide))
      refine yr_aload_n 45 C dX9_stage_44 rfl rfl rfl ?_
      refine ym_getA 48 C hR dX9_stage_45 fl_X9_117 (by decide) rfl rfl ?_
      refine yr_iload 50 C dX9_stage_48 rfl rfl ?_
      refine ym_aldN 51 C hR dX9_stage_50 (by decide) rfl rfl ?_ rfl ?_
      · simp only [mL]; omega
      refine yr_istore8 53 C dX9_stage_51 (by decide) rfl ?_
      refine yr_iload 55 C dX9_stage_53 rfl rfl ?_
      refine yr_bipush 57 C (-5) dX9_stage_55 rfl rfl ?_
      refine yr_icmp_ne 63 60 C dX9_stage_57 (by decide) rfl (fun c57 => ?_) (fun c57 => ?_)
      · refine yr_aload_n 64 C dX9_stage_63 rfl rfl rfl ?_
        refine yr_iload 66 C dX9_stage_64 rfl rfl ?_
        refine yr_V1v 69 C (mc_isPhase hZ _ _ hR) dX9_stage_66 mt_X9_isPhase mv_X9_isPhase ml_X9_136 hR.1 rfl (Nat.le_of_ble_eq_true rfl) (Nat.le_of_ble_eq_true rfl) (Nat.le_of_ble_eq_true rfl) (Nat.le_of_ble_eq_true rfl) (Nat.le_of_ble_eq_true rfl) rfl (fun h hR => ?_)
        refine yb_ne 74 72 C dX9_stage_69 (by decide) rfl (fun c69 => ?_) (fun c69 => ?_)
        · obtain ⟨z, hz, ez⟩ := m_isP_nI x0 c69
          rw [ez] at c57 c69
          rw [ez]
          refine yr_iconst 75 C (1) dX9_stage_74 rfl rfl ?_
          rw [show (1 : Int32) = bI true from rfl]
          refine yr_istore5 77 C dX9_stage_75 (by decide) rfl ?_
          refine yr_iconst 78 C (0) dX9_stage_77 rfl rfl ?_
          refine yr_istore9 80 C dX9_stage_78 (by decide) rfl ?_
          have inner : ∀ (j2 k : Nat) (me2 : Bool), k + j2 = i → m_stI X (nI z) j2 k me2 = m_stI X (nI z) i 0 me → ∀ h : yH, yMR dA ad m0 (X) h → yW p l e (yR 2 0 0) s m args below meth c 10 D A 0 0 (yF D A (fun r h' => r = some (.int (sp_stage S a b f g).1) ∧ yMR dA ad m0 ((sp_stage S a b f g).2) h') below args s 0 0) 80 [some (.ref m0), some (.int a), some (.int b), some (.int f), some (.int g), some (.int (bI true)), some (.int (bI me2)), some (.int (nI i)), some (.int (nI z)), some (.int (nI k))] [] h := by
            intro j2
            induction j2 with
            | zero =>
              intro k me2 hij2 hg h hR
              refine yr_iload 82 C dX9_stage_80 rfl rfl ?_
              refine yr_iload 84 C dX9_stage_82 rfl rfl ?_
              skip
              refine yr_icmp_ge 145 87 C dX9_stage_84 (by decide) rfl (fun c84 => ?_) (fun c84 => ?_)
              rotate_left
              · exact absurd (nI_le (by omega) (by omega)) c84
              refine yr_iinc7 148 C (1) dX9_stage_145 rfl (by decide) rfl ?_
              rw [nI_1]
              refine yr_goto 38 C dX9_stage_148 (by decide) ?_
              have hg2 : some me2 = m_stI X (nI z) i 0 me := hg
              refine yr_forget8 (yr_forget9 ?_)
              exact ih (i + 1) true _ (by omega) (by rw [← he]; simp [m_stO, ez, c57, c69, ← hg2]) (fun k hk => by
                by_cases e : k = i
                · rw [e, ez]; exact Or.inr ⟨z, hz, rfl⟩
                · exact hv k (by omega)) h hR
            | succ j2 ih2 =>
              intro k me2 hij2 hg h hR
              refine yr_iload 82 C dX9_stage_80 rfl rfl ?_
              refine yr_iload 84 C dX9_stage_82 rfl rfl ?_
              skip
              refine yr_icmp_ge 145 87 C dX9_stage_84 (by decide) rfl (fun c84 => ?_) (fun c84 => ?_)
              · exact absurd c84 (nI_ge (by omega) (by omega))
              refine yr_aload_n 88 C dX9_stage_87 rfl rfl rfl ?_
              refine ym_getA 91 C hR dX9_stage_88 fl_X9_117 (by decide) rfl rfl ?_
              refine yr_iload 93 C dX9_stage_91 rfl rfl ?_
              refine ym_aldN 94 C hR dX9_stage_93 (by decide) rfl rfl ?_ rfl ?_
              · simp only [mL]; omega
              refine yr_iload 96 C dX9_stage_94 rfl rfl ?_
              refine yr_icmp_ne 101 99 C dX9_stage_96 (by decide) rfl (fun c96 => ?_) (fun c96 => ?_)
              · refine yr_iload 103 C dX9_stage_101 rfl rfl ?_
                refine yr_aload_n 104 C dX9_stage_103 rfl rfl rfl ?_
                refine ym_getA 107 C hR dX9_stage_104 fl_X9_117 (by decide) rfl rfl ?_
                refine yr_iload 109 C dX9_stage_107 rfl rfl ?_
                refine ym_aldN 110 C hR dX9_stage_109 (by decide) rfl rfl ?_ rfl ?_
                · simp only [mL]; omega
                refine yr_bipush 112 C (-5) dX9_stage_110 rfl rfl ?_
                refine yr_icmp_eq 135 115 C dX9_stage_112 (by decide) rfl (fun c112 => ?_) (fun c112 => ?_)
                · refine yr_iconst 136 C (0) dX9_stage_135 rfl rfl ?_
                  refine yr_ior 137 C dX9_stage_136 rfl ?_
                  rw [or_0 (a := me2) (b := (!decide (X 52 k = -5) && m_meets X (ix (nI z)) (ix (X 52 k)))) (by simp [c112])]
                  refine yr_istore6 139 C dX9_stage_137 (by decide) rfl ?_
                  refine yr_iinc9 142 C (1) dX9_stage_139 rfl (by decide) rfl ?_
                  rw [nI_1]
                  refine yr_goto 80 C dX9_stage_142 (by decide) ?_
                  exact ih2 (k + 1) _ (by omega) (by rw [← hg]; simp [m_stI, c96]) h hR
                · obtain ⟨y, hy, ey⟩ : ∃ y : Nat, y < np ∧ X 52 k = nI y := by
                    rcases hv k (by omega) with e | e
                    · exact absurd e c112
                    · exact e
                  have e2 : ix (X 52 k) = y := by rw [ey]; exact ix_nI (by omega)
                  refine yr_aload_n 116 C dX9_stage_115 rfl rfl rfl ?_
                  refine yr_iload 118 C dX9_stage_116 rfl rfl ?_
                  refine yr_aload_n 119 C dX9_stage_118 rfl rfl rfl ?_
                  refine ym_getA 122 C hR dX9_stage_119 fl_X9_117 (by decide) rfl rfl ?_
                  refine yr_iload 124 C dX9_stage_122 rfl rfl ?_
                  refine ym_aldN 125 C hR dX9_stage_124 (by decide) rfl rfl ?_ rfl ?_
                  · simp only [mL]; omega
                  rw [ey]
                  refine yr_V2v 128 C (mc_meets hZ _ _ (by omega) (by omega) _ hR) dX9_stage_125 mt_X9_meets mv_X9_meets ml_X9_144 hR.1 rfl (Nat.le_of_ble_eq_true rfl) (Nat.le_of_ble_eq_true rfl) (Nat.le_of_ble_eq_true rfl) (Nat.le_of_ble_eq_true rfl) (Nat.le_of_ble_eq_true rfl) rfl (fun h hR => ?_)
                  refine yb_eq 135 131 C dX9_stage_128 (by decide) rfl (fun c128 => ?_) (fun c128 => ?_)
                  · refine yr_iconst 136 C (0) dX9_stage_135 rfl rfl ?_
                    refine yr_ior 137 C dX9_stage_136 rfl ?_
                    rw [or_0 (a := me2) (b := (!decide (X 52 k = -5) && m_meets X (ix (nI z)) (ix (X 52 k)))) (by simp [ix_nI (show z < 2 ^ 31 by omega), e2, c112, c128])]
                    refine yr_istore6 139 C dX9_stage_137 (by decide) rfl ?_
                    refine yr_iinc9 142 C (1) dX9_stage_139 rfl (by decide) rfl ?_
                    rw [nI_1]
                    refine yr_goto 80 C dX9_stage_142 (by decide) ?_
                    exact ih2 (k + 1) _ (by omega) (by rw [← hg]; simp [m_stI, c96]) h hR
                  · refine yr_iconst 132 C (1) dX9_stage_131 rfl rfl ?_
                    refine yr_goto 136 C dX9_stage_132 (by decide) ?_
                    refine yr_ior 137 C dX9_stage_136 rfl ?_
                    rw [or_1 (a := me2) (b := (!decide (X 52 k = -5) && m_meets X (ix (nI z)) (ix (X 52 k)))) (by simp [ix_nI (show z < 2 ^ 31 by omega), e2, c112, c128])]
                    refine yr_istore6 139 C dX9_stage_137 (by decide) rfl ?_
                    refine yr_iinc9 142 C (1) dX9_stage_139 rfl (by decide) rfl ?_
                    rw [nI_1]
                    refine yr_goto 80 C dX9_stage_142 (by decide) ?_
                    exact ih2 (k + 1) _ (by omega) (by rw [← hg]; simp [m_stI, c96]) h hR
              · refine yr_iconst 100 C (-1) dX9_stage_99 rfl rfl ?_
                refine yr_iret C dX9_stage_100 hr (Nat.le_of_ble_eq_true rfl) (Nat.le_of_ble_eq_true rfl) ?_
                have e7 : m_stI X (nI z) i 0 me = none := by rw [← hg]; simp [m_stI, c96]
                have e6 : m_stO X 4 0 false false = none := by rw [← he]; simp [m_stO, ez, c57, c69, e7]
                rw [eX] at e6 hR
                exact ⟨by simp [sp_stage, e6], by simpa [sp_stage, e6] using hR⟩
          exact inner i 0 me (by omega) rfl h hR
        · refine yr_iconst 73 C (-1) dX9_stage_72 rfl rfl ?_
          refine yr_iret C dX9_stage_73 hr (Nat.le_of_ble_eq_true rfl) (Nat.le_of_ble_eq_true rfl) ?_
          have e6 : m_stO X 4 0 false false = none := by rw [← he]; simp [m_stO, c57, c69]
          rw [eX] at e6 hR
          exact ⟨by simp [sp_stage, e6], by simpa [sp_stage, e6] using hR⟩
      · refine yr_goto 145 C dX9_stage_60 (by decide) ?_
        refine yr_iinc7 148 C (1) dX9_stage_145 rfl (by decide) rfl ?_
        rw [nI_1]
        refine yr_goto 38 C dX9_stage_148 (by decide) ?_
        refine yr_forget8 (yr_forget9 ?_)
        exact ih (i + 1) _ _ (by omega) (by rw [← he]; simp [m_stO, c57]) (fun k hk => by
          by_cases e : k = i
          · rw [e, c57]; exact Or.inl rfl
          · exact hv k (by omega)) h hR
  exact loop38 4 0 false false rfl rfl (fun k hk => absurd hk (by omega)) h hR
end M12
