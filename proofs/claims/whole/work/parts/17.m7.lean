section M7
variable {Z : (Nat → Prop) → State → Prop} {D : va_G} {dA : Nat → ClassId} {ad : Nat → Nat} {m0 : Nat} {S : yS} {np ns nd no nr t : Nat}
set_option maxHeartbeats 4000000 in
set_option maxRecDepth 100000 in
theorem mc_readAll (hZ : yZok D dA Z)  (hB : mB S np ns nd nr t) (h : yH) (hR : yMR dA ad m0 (S) h) : yM Z D yX9_readAll cX9_readAll 5 none 3 0 0 [.ref m0] h (fun r h' => r = none ∧ yMR dA ad m0 (m_readAll S np nr) h') := by
  refine yM_of hZ (by decide) rfl (Nat.le_of_ble_eq_true rfl) ?_
  intro p l e s m args below meth c A C hr hin
  show yW p l e (yR 3 0 0) s m args below meth c 5 D A 0 0 _ 0 [some (.ref m0), none, none, none, none] [] h
  refine yr_iconst 1 C (0) dX9_readAll_0 rfl rfl ?_
  refine yr_istore1 2 C dX9_readAll_1 (by decide) rfl ?_
  have loop2 : ∀ (j i : Nat) (X : yS), i + j = np → mB X np ns nd nr t → m_rdL j i X = m_rdL np 0 S → ∀ h : yH, yMR dA ad m0 (X) h → yW p l e (yR 3 0 0) s m args below meth c 5 D A 0 0 (yF D A (fun r h' => r = none ∧ yMR dA ad m0 (m_readAll S np nr) h') below args s 0 0) 2 [some (.ref m0), some (.int (nI i)), none, none, none] [] h := by
    intro j
    induction j with
    | zero =>
      intro i X hij hX he h hR
      have x0 : X 1 0 = nI np ∧ np ≤ 8 := hX 0
      have x3 : X 0 0 = nI t ∧ t < 2 ^ 20 ∧ nd ≤ 12 := hX 3
      have x2 : X 29 0 = nI nr ∧ nr ≤ 6 := hX 2
      refine yr_iload_n 3 C dX9_readAll_2 rfl rfl ?_
      refine yr_aload_n 4 C dX9_readAll_3 rfl rfl rfl ?_
      refine ym_get 7 C hR dX9_readAll_4 fl_X9_120 (by decide) rfl rfl ?_
      rw [x0.1]
      refine yr_icmp_ge 77 10 C dX9_readAll_7 (by decide) rfl (fun c7 => ?_) (fun c7 => ?_)
      rotate_left
      · exact absurd (nI_le (by omega) (by omega)) c7
      refine yr_iconst 78 C (0) dX9_readAll_77 rfl rfl ?_
      refine yr_istore1 79 C dX9_readAll_78 (by decide) rfl ?_
      have loop79 : ∀ (j i : Nat) (V : yS), i + j = nr → mB V np ns nd nr t → m_prL j i V = m_readAll S np nr → ∀ h : yH, yMR dA ad m0 (V) h → yW p l e (yR 3 0 0) s m args below meth c 5 D A 0 0 (yF D A (fun r h' => r = none ∧ yMR dA ad m0 (m_readAll S np nr) h') below args s 0 0) 79 [some (.ref m0), some (.int (nI i)), none, none, none] [] h := by
        intro j
        induction j with
        | zero =>
          intro i V hij hV hf h hR
          have x0 : V 1 0 = nI np ∧ np ≤ 8 := hV 0
          have x3 : V 0 0 = nI t ∧ t < 2 ^ 20 ∧ nd ≤ 12 := hV 3
          have x2 : V 29 0 = nI nr ∧ nr ≤ 6 := hV 2
          refine yr_iload_n 80 C dX9_readAll_79 rfl rfl ?_
          refine yr_aload_n 81 C dX9_readAll_80 rfl rfl rfl ?_
          refine ym_get 84 C hR dX9_readAll_81 fl_X9_153 (by decide) rfl rfl ?_
          rw [x2.1]
          refine yr_icmp_ge 212 87 C dX9_readAll_84 (by decide) rfl (fun c84 => ?_) (fun c84 => ?_)
          rotate_left
          · exact absurd (nI_le (by omega) (by omega)) c84
          refine yr_vret C dX9_readAll_212 hr (Nat.le_of_ble_eq_true rfl) (Nat.le_of_ble_eq_true rfl) ?_
          exact ⟨rfl, by rw [← hf]; exact hR⟩
        | succ j ih =>
          intro i V hij hV hf h hR
          have x0 : V 1 0 = nI np ∧ np ≤ 8 := hV 0
          have x3 : V 0 0 = nI t ∧ t < 2 ^ 20 ∧ nd ≤ 12 := hV 3
          have x2 : V 29 0 = nI nr ∧ nr ≤ 6 := hV 2
          obtain ⟨⟨d, hd, ed⟩, ⟨f, hf2, ef⟩⟩ := (show ∀ k, k < nr → (∃ d, d < nd ∧ V 30 k = nI d) ∧ ∃ d, d < nd ∧ V 31 k = nI d from hV 8) i (by omega)
          have e1 : ix (V 30 i) = d := by rw [ed]; exact ix_nI (by omega)
          have e2 : ix (V 31 i) = f := by rw [ef]; exact ix_nI (by omega)
          have e3 : ix (V 0 0) = t := by rw [x3.1]; exact ix_nI (by omega)
          refine yr_iload_n 80 C dX9_readAll_79 rfl rfl ?_
          refine yr_aload_n 81 C dX9_readAll_80 rfl rfl rfl ?_
          refine ym_get 84 C hR dX9_readAll_81 fl_X9_153 (by decide) rfl rfl ?_
          rw [x2.1]
          refine yr_icmp_ge 212 87 C dX9_readAll_84 (by decide) rfl (fun c84 => ?_) (fun c84 => ?_)
          · exact absurd c84 (nI_ge (by omega) (by omega))
          refine yr_aload_n 88 C dX9_readAll_87 rfl rfl rfl ?_
          refine ym_getA 91 C hR dX9_readAll_88 fl_X9_83 (by decide) rfl rfl ?_
          refine yr_iload_n 92 C dX9_readAll_91 rfl rfl ?_
          refine ym_aldN 93 C hR dX9_readAll_92 (by decide) rfl rfl ?_ rfl ?_
          · simp only [mL]; omega
          rw [ed]
          refine yr_istore2 94 C dX9_readAll_93 (by decide) rfl ?_
          refine yr_aload_n 95 C dX9_readAll_94 rfl rfl rfl ?_
          refine ym_getA 98 C hR dX9_readAll_95 fl_X9_86 (by decide) rfl rfl ?_
          refine yr_iload_n 99 C dX9_readAll_98 rfl rfl ?_
          refine ym_aldN 100 C hR dX9_readAll_99 (by decide) rfl rfl ?_ rfl ?_
          · simp only [mL]; omega
          rw [ef]
          refine yr_istore3 101 C dX9_readAll_100 (by decide) rfl ?_
          refine yr_aload_n 102 C dX9_readAll_101 rfl rfl rfl ?_
          refine ym_getA 105 C hR dX9_readAll_102 fl_X9_59 (by decide) rfl rfl ?_
          refine yr_iload_n 106 C dX9_readAll_105 rfl rfl ?_
          refine ym_aldN 107 C hR dX9_readAll_106 (by decide) rfl rfl ?_ rfl ?_
          · simp only [mL]; omega
          refine yr_aload_n 108 C dX9_readAll_107 rfl rfl rfl ?_
          refine ym_get 111 C hR dX9_readAll_108 fl_X9_133 (by decide) rfl rfl ?_
          refine yr_icmp_le 180 114 C dX9_readAll_111 (by decide) rfl (fun c111 => ?_) (fun c111 => ?_)
          · refine yr_iconst 181 C (0) dX9_readAll_180 rfl rfl ?_
            refine yr_istore4 183 C dX9_readAll_181 (by decide) rfl ?_
            refine yr_aload_n 184 C dX9_readAll_183 rfl rfl rfl ?_
            refine ym_getA 187 C hR dX9_readAll_184 fl_X9_92 (by decide) rfl rfl ?_
            refine yr_iload_n 188 C dX9_readAll_187 rfl rfl ?_
            refine yr_iload 190 C dX9_readAll_188 rfl rfl ?_
            refine yr_if_eq 204 193 C dX9_readAll_190 (by decide) rfl (fun c190 => ?_) (fun c190 => ?_)
            rotate_left
            · exact absurd (by decide) c190
            refine yr_iconst 205 C (0) dX9_readAll_204 rfl rfl ?_
            refine ym_astN 206 C hR dX9_readAll_205 (by decide) rfl rfl ?_ rfl (fun h hR => ?_)
            · simp only [mL]; omega
            refine yr_iinc1 209 C (1) dX9_readAll_206 rfl (by decide) rfl ?_
            rw [nI_1]
            refine yr_goto 79 C dX9_readAll_209 (by decide) ?_
            refine yr_forget2 (yr_forget3 (yr_forget4 ?_))
            exact ih (i + 1) _ (by omega) (mB_fr hV (mFr_set V i _ (show mFk 33 = true from rfl))) hf h (by simpa [m_pr, m_diff, e1, e2, e3, c111] using hR)
          · refine yr_aload_n 115 C dX9_readAll_114 rfl rfl rfl ?_
            refine ym_getA 118 C hR dX9_readAll_115 fl_X9_59 (by decide) rfl rfl ?_
            refine yr_iload_n 119 C dX9_readAll_118 rfl rfl ?_
            refine ym_aldN 120 C hR dX9_readAll_119 (by decide) rfl rfl ?_ rfl ?_
            · simp only [mL]; omega
            refine yr_aload_n 121 C dX9_readAll_120 rfl rfl rfl ?_
            refine ym_get 124 C hR dX9_readAll_121 fl_X9_133 (by decide) rfl rfl ?_
            refine yr_icmp_le 180 127 C dX9_readAll_124 (by decide) rfl (fun c124 => ?_) (fun c124 => ?_)
            · refine yr_iconst 181 C (0) dX9_readAll_180 rfl rfl ?_
              refine yr_istore4 183 C dX9_readAll_181 (by decide) rfl ?_
              refine yr_aload_n 184 C dX9_readAll_183 rfl rfl rfl ?_
              refine ym_getA 187 C hR dX9_readAll_184 fl_X9_92 (by decide) rfl rfl ?_
              refine yr_iload_n 188 C dX9_readAll_187 rfl rfl ?_
              refine yr_iload 190 C dX9_readAll_188 rfl rfl ?_
              refine yr_if_eq 204 193 C dX9_readAll_190 (by decide) rfl (fun c190 => ?_) (fun c190 => ?_)
              rotate_left
              · exact absurd (by decide) c190
              refine yr_iconst 205 C (0) dX9_readAll_204 rfl rfl ?_
              refine ym_astN 206 C hR dX9_readAll_205 (by decide) rfl rfl ?_ rfl (fun h hR => ?_)
              · simp only [mL]; omega
              refine yr_iinc1 209 C (1) dX9_readAll_206 rfl (by decide) rfl ?_
              rw [nI_1]
              refine yr_goto 79 C dX9_readAll_209 (by decide) ?_
              refine yr_forget2 (yr_forget3 (yr_forget4 ?_))
              exact ih (i + 1) _ (by omega) (mB_fr hV (mFr_set V i _ (show mFk 33 = true from rfl))) hf h (by simpa [m_pr, m_diff, e1, e2, e3, c111, c124] using hR)
            · have ht : t < 200 := by
                have q6 : cO (V 20 d) 201 := (show ∀ d, d < nd → cO (V 20 d) 201 from hV 6) d hd
                rcases q6 with e | ⟨n, hn, e⟩
                · exact absurd (by rw [e, x3.1]; exact Int32.le_of_lt (Int32.lt_of_lt_of_le (show (-5 : Int32) < 0 by decide) (nI_pos' (by omega)))) c111
                · rw [e, x3.1] at c111
                  have hq : ¬ n ≤ t := fun q => c111 (nI_le q (by omega))
                  omega
              refine yr_aload_n 128 C dX9_readAll_127 rfl rfl rfl ?_
              refine ym_getA 131 C hR dX9_readAll_128 fl_X9_62 (by decide) rfl rfl ?_
              refine yr_sipush 134 C (200) dX9_readAll_131 rfl rfl ?_
              refine yr_iload_n 135 C dX9_readAll_134 rfl rfl ?_
              refine yr_imul 136 C dX9_readAll_135 rfl ?_
              refine yr_aload_n 137 C dX9_readAll_136 rfl rfl rfl ?_
              refine ym_get 140 C hR dX9_readAll_137 fl_X9_133 (by decide) rfl rfl ?_
              refine yr_iadd 141 C dX9_readAll_140 rfl ?_
              rw [x3.1, show (200 : Int32) * nI d + nI t = nI (200 * d + t) from ixm]
              refine ym_aldN 142 C hR dX9_readAll_141 (by decide) rfl rfl ?_ rfl ?_
              · simp only [mL]; omega
              refine yr_if_le 149 145 C dX9_readAll_142 (by decide) rfl (fun c142 => ?_) (fun c142 => ?_)
              · refine yr_iconst 150 C (0) dX9_readAll_149 rfl rfl ?_
                refine yr_aload_n 151 C dX9_readAll_150 rfl rfl rfl ?_
                refine ym_getA 154 C hR dX9_readAll_151 fl_X9_62 (by decide) rfl rfl ?_
                refine yr_sipush 157 C (200) dX9_readAll_154 rfl rfl ?_
                refine yr_iload_n 158 C dX9_readAll_157 rfl rfl ?_
                refine yr_imul 159 C dX9_readAll_158 rfl ?_
                refine yr_aload_n 160 C dX9_readAll_159 rfl rfl rfl ?_
                refine ym_get 163 C hR dX9_readAll_160 fl_X9_133 (by decide) rfl rfl ?_
                refine yr_iadd 164 C dX9_readAll_163 rfl ?_
                rw [x3.1, show (200 : Int32) * nI f + nI t = nI (200 * f + t) from ixm]
                refine ym_aldN 165 C hR dX9_readAll_164 (by decide) rfl rfl ?_ rfl ?_
                · simp only [mL]; omega
                refine yr_if_le 172 168 C dX9_readAll_165 (by decide) rfl (fun c165 => ?_) (fun c165 => ?_)
                · refine yr_iconst 173 C (0) dX9_readAll_172 rfl rfl ?_
                  refine yr_icmp_eq 180 176 C dX9_readAll_173 (by decide) rfl (fun c173 => ?_) (fun c173 => ?_)
                  rotate_left
                  · exact absurd (by decide) c173
                  refine yr_iconst 181 C (0) dX9_readAll_180 rfl rfl ?_
                  refine yr_istore4 183 C dX9_readAll_181 (by decide) rfl ?_
                  refine yr_aload_n 184 C dX9_readAll_183 rfl rfl rfl ?_
                  refine ym_getA 187 C hR dX9_readAll_184 fl_X9_92 (by decide) rfl rfl ?_
                  refine yr_iload_n 188 C dX9_readAll_187 rfl rfl ?_
                  refine yr_iload 190 C dX9_readAll_188 rfl rfl ?_
                  refine yr_if_eq 204 193 C dX9_readAll_190 (by decide) rfl (fun c190 => ?_) (fun c190 => ?_)
                  rotate_left
                  · exact absurd (by decide) c190
                  refine yr_iconst 205 C (0) dX9_readAll_204 rfl rfl ?_
                  refine ym_astN 206 C hR dX9_readAll_205 (by decide) rfl rfl ?_ rfl (fun h hR => ?_)
                  · simp only [mL]; omega
                  refine yr_iinc1 209 C (1) dX9_readAll_206 rfl (by decide) rfl ?_
                  rw [nI_1]
                  refine yr_goto 79 C dX9_readAll_209 (by decide) ?_
                  refine yr_forget2 (yr_forget3 (yr_forget4 ?_))
                  exact ih (i + 1) _ (by omega) (mB_fr hV (mFr_set V i _ (show mFk 33 = true from rfl))) hf h (by simpa [m_pr, m_diff, e1, e2, e3, c111, c124, c142, c165] using hR)
                · refine yr_iconst 169 C (1) dX9_readAll_168 rfl rfl ?_
                  refine yr_goto 173 C dX9_readAll_169 (by decide) ?_
                  refine yr_icmp_eq 180 176 C dX9_readAll_173 (by decide) rfl (fun c173 => ?_) (fun c173 => ?_)
                  · exact absurd c173 (by decide)
                  refine yr_iconst 177 C (1) dX9_readAll_176 rfl rfl ?_
                  refine yr_goto 181 C dX9_readAll_177 (by decide) ?_
                  refine yr_istore4 183 C dX9_readAll_181 (by decide) rfl ?_
                  refine yr_aload_n 184 C dX9_readAll_183 rfl rfl rfl ?_
                  refine ym_getA 187 C hR dX9_readAll_184 fl_X9_92 (by decide) rfl rfl ?_
                  refine yr_iload_n 188 C dX9_readAll_187 rfl rfl ?_
                  refine yr_iload 190 C dX9_readAll_188 rfl rfl ?_
                  refine yr_if_eq 204 193 C dX9_readAll_190 (by decide) rfl (fun c190 => ?_) (fun c190 => ?_)
                  · exact absurd c190 (by decide)
                  refine yr_aload_n 194 C dX9_readAll_193 rfl rfl rfl ?_
                  refine ym_getA 197 C hR dX9_readAll_194 fl_X9_92 (by decide) rfl rfl ?_
                  refine yr_iload_n 198 C dX9_readAll_197 rfl rfl ?_
                  refine ym_aldN 199 C hR dX9_readAll_198 (by decide) rfl rfl ?_ rfl ?_
                  · simp only [mL]; omega
                  refine yr_iconst 200 C (1) dX9_readAll_199 rfl rfl ?_
                  refine yr_iadd 201 C dX9_readAll_200 rfl ?_
                  refine yr_goto 205 C dX9_readAll_201 (by decide) ?_
                  refine ym_astN 206 C hR dX9_readAll_205 (by decide) rfl rfl ?_ rfl (fun h hR => ?_)
                  · simp only [mL]; omega
                  refine yr_iinc1 209 C (1) dX9_readAll_206 rfl (by decide) rfl ?_
                  rw [nI_1]
                  refine yr_goto 79 C dX9_readAll_209 (by decide) ?_
                  refine yr_forget2 (yr_forget3 (yr_forget4 ?_))
                  exact ih (i + 1) _ (by omega) (mB_fr hV (mFr_set V i _ (show mFk 33 = true from rfl))) hf h (by simpa [m_pr, m_diff, e1, e2, e3, c111, c124, c142, c165] using hR)
              · refine yr_iconst 146 C (1) dX9_readAll_145 rfl rfl ?_
                refine yr_goto 150 C dX9_readAll_146 (by decide) ?_
                refine yr_aload_n 151 C dX9_readAll_150 rfl rfl rfl ?_
                refine ym_getA 154 C hR dX9_readAll_151 fl_X9_62 (by decide) rfl rfl ?_
                refine yr_sipush 157 C (200) dX9_readAll_154 rfl rfl ?_
                refine yr_iload_n 158 C dX9_readAll_157 rfl rfl ?_
                refine yr_imul 159 C dX9_readAll_158 rfl ?_
                refine yr_aload_n 160 C dX9_readAll_159 rfl rfl rfl ?_
                refine ym_get 163 C hR dX9_readAll_160 fl_X9_133 (by decide) rfl rfl ?_
                refine yr_iadd 164 C dX9_readAll_163 rfl ?_
                rw [x3.1, show (200 : Int32) * nI f + nI t = nI (200 * f + t) from ixm]
                refine ym_aldN 165 C hR dX9_readAll_164 (by decide) rfl rfl ?_ rfl ?_
                · simp only [mL]; omega
                refine yr_if_le 172 168 C dX9_readAll_165 (by decide) rfl (fun c165 => ?_) (fun c165 => ?_)
                · refine yr_iconst 173 C (0) dX9_readAll_172 rfl rfl ?_
                  refine yr_icmp_eq 180 176 C dX9_readAll_173 (by decide) rfl (fun c173 => ?_) (fun c173 => ?_)
                  · exact absurd c173 (by decide)
                  refine yr_iconst 177 C (1) dX9_readAll_176 rfl rfl ?_
                  refine yr_goto 181 C dX9_readAll_177 (by decide) ?_
                  refine yr_istore4 183 C dX9_readAll_181 (by decide) rfl ?_
                  refine yr_aload_n 184 C dX9_readAll_183 rfl rfl rfl ?_
                  refine ym_getA 187 C hR dX9_readAll_184 fl_X9_92 (by decide) rfl rfl ?_
                  refine yr_iload_n 188 C dX9_readAll_187 rfl rfl ?_
                  refine yr_iload 190 C dX9_readAll_188 rfl rfl ?_
                  refine yr_if_eq 204 193 C dX9_readAll_190 (by decide) rfl (fun c190 => ?_) (fun c190 => ?_)
                  · exact absurd c190 (by decide)
                  refine yr_aload_n 194 C dX9_readAll_193 rfl rfl rfl ?_
                  refine ym_getA 197 C hR dX9_readAll_194 fl_X9_92 (by decide) rfl rfl ?_
                  refine yr_iload_n 198 C dX9_readAll_197 rfl rfl ?_
                  refine ym_aldN 199 C hR dX9_readAll_198 (by decide) rfl rfl ?_ rfl ?_
                  · simp only [mL]; omega
                  refine yr_iconst 200 C (1) dX9_readAll_199 rfl rfl ?_
                  refine yr_iadd 201 C dX9_readAll_200 rfl ?_
                  refine yr_goto 205 C dX9_readAll_201 (by decide) ?_
                  refine ym_astN 206 C hR dX9_readAll_205 (by decide) rfl rfl ?_ rfl (fun h hR => ?_)
                  · simp only [mL]; omega
                  refine yr_iinc1 209 C (1) dX9_readAll_206 rfl (by decide) rfl ?_
                  rw [nI_1]
                  refine yr_goto 79 C dX9_readAll_209 (by decide) ?_
                  refine yr_forget2 (yr_forget3 (yr_forget4 ?_))
                  exact ih (i + 1) _ (by omega) (mB_fr hV (mFr_set V i _ (show mFk 33 = true from rfl))) hf h (by simpa [m_pr, m_diff, e1, e2, e3, c111, c124, c142, c165] using hR)
                · refine yr_iconst 169 C (1) dX9_readAll_168 rfl rfl ?_
                  refine yr_goto 173 C dX9_readAll_169 (by decide) ?_
                  refine yr_icmp_eq 180 176 C dX9_readAll_173 (by decide) rfl (fun c173 => ?_) (fun c173 => ?_)
                  rotate_left
                  · exact absurd (by decide) c173
                  refine yr_iconst 181 C (0) dX9_readAll_180 rfl rfl ?_
                  refine yr_istore4 183 C dX9_readAll_181 (by decide) rfl ?_
                  refine yr_aload_n 184 C dX9_readAll_183 rfl rfl rfl ?_
                  refine ym_getA 187 C hR dX9_readAll_184 fl_X9_92 (by decide) rfl rfl ?_
                  refine yr_iload_n 188 C dX9_readAll_187 rfl rfl ?_
                  refine yr_iload 190 C dX9_readAll_188 rfl rfl ?_
                  refine yr_if_eq 204 193 C dX9_readAll_190 (by decide) rfl (fun c190 => ?_) (fun c190 => ?_)
                  rotate_left
                  · exact absurd (by decide) c190
                  refine yr_iconst 205 C (0) dX9_readAll_204 rfl rfl ?_
                  refine ym_astN 206 C hR dX9_readAll_205 (by decide) rfl rfl ?_ rfl (fun h hR => ?_)
                  · simp only [mL]; omega
                  refine yr_iinc1 209 C (1) dX9_readAll_206 rfl (by decide) rfl ?_
                  rw [nI_1]
                  refine yr_goto 79 C dX9_readAll_209 (by decide) ?_
                  refine yr_forget2 (yr_forget3 (yr_forget4 ?_))
                  exact ih (i + 1) _ (by omega) (mB_fr hV (mFr_set V i _ (show mFk 33 = true from rfl))) hf h (by simpa [m_pr, m_diff, e1, e2, e3, c111, c124, c142, c165] using hR)
      exact loop79 nr 0 X (by omega) hX (by unfold m_readAll; rw [← he]; rfl) h hR
    | succ j ih =>
      intro i X hij hX he h hR
      have x0 : X 1 0 = nI np ∧ np ≤ 8 := hX 0
      have x3 : X 0 0 = nI t ∧ t < 2 ^ 20 ∧ nd ≤ 12 := hX 3
      have x2 : X 29 0 = nI nr ∧ nr ≤ 6 := hX 2
      refine yr_iload_n 3 C dX9_readAll_2 rfl rfl ?_
      refine yr_aload_n 4 C dX9_readAll_3 rfl rfl rfl ?_
      refine ym_get 7 C hR dX9_readAll_4 fl_X9_120 (by decide) rfl rfl ?_
      rw [x0.1]
      refine yr_icmp_ge 77 10 C dX9_readAll_7 (by decide) rfl (fun c7 => ?_) (fun c7 => ?_)
      · exact absurd c7 (nI_ge (by omega) (by omega))
      refine yr_aload_n 11 C dX9_readAll_10 rfl rfl rfl ?_
      refine ym_getA 14 C hR dX9_readAll_11 fl_X9_13 (by decide) rfl rfl ?_
      refine yr_iload_n 15 C dX9_readAll_14 rfl rfl ?_
      refine ym_aldN 16 C hR dX9_readAll_15 (by decide) rfl rfl ?_ rfl ?_
      · simp only [mL]; omega
      refine yr_iconst 17 C (1) dX9_readAll_16 rfl rfl ?_
      refine yr_icmp_ne 34 20 C dX9_readAll_17 (by decide) rfl (fun c17 => ?_) (fun c17 => ?_)
      · refine yr_aload_n 35 C dX9_readAll_34 rfl rfl rfl ?_
        refine ym_getA 38 C hR dX9_readAll_35 fl_X9_34 (by decide) rfl rfl ?_
        refine yr_iload_n 39 C dX9_readAll_38 rfl rfl ?_
        refine ym_aldN 40 C hR dX9_readAll_39 (by decide) rfl rfl ?_ rfl ?_
        · simp only [mL]; omega
        refine yr_if_ge 71 43 C dX9_readAll_40 (by decide) rfl (fun c40 => ?_) (fun c40 => ?_)
        · refine yr_iinc1 74 C (1) dX9_readAll_71 rfl (by decide) rfl ?_
          rw [nI_1]
          refine yr_goto 2 C dX9_readAll_74 (by decide) ?_
          exact ih (i + 1) _ (by omega) (mB_fr hX (mFr_rw (m_rd_rw X i) rfl)) he h (by simpa [m_rd, c17, c40] using hR)
        · refine yr_aload_n 44 C dX9_readAll_43 rfl rfl rfl ?_
          refine ym_getA 47 C hR dX9_readAll_44 fl_X9_7 (by decide) rfl rfl ?_
          refine yr_iload_n 48 C dX9_readAll_47 rfl rfl ?_
          refine ym_aldN 49 C hR dX9_readAll_48 (by decide) rfl rfl ?_ rfl ?_
          · simp only [mL]; omega
          refine yr_iconst 50 C (4) dX9_readAll_49 rfl rfl ?_
          refine yr_icmp_eq 71 53 C dX9_readAll_50 (by decide) rfl (fun c50 => ?_) (fun c50 => ?_)
          · refine yr_iinc1 74 C (1) dX9_readAll_71 rfl (by decide) rfl ?_
            rw [nI_1]
            refine yr_goto 2 C dX9_readAll_74 (by decide) ?_
            exact ih (i + 1) _ (by omega) (mB_fr hX (mFr_rw (m_rd_rw X i) rfl)) he h (by simpa [m_rd, c17, c40, c50] using hR)
          · refine yr_aload_n 54 C dX9_readAll_53 rfl rfl rfl ?_
            refine yr_iload_n 55 C dX9_readAll_54 rfl rfl ?_
            refine yr_V1v 58 C (mc_doesAsk hZ _ (by omega) hX _ hR) dX9_readAll_55 mt_X9_doesAsk mv_X9_doesAsk ml_X9_201 hR.1 rfl (Nat.le_of_ble_eq_true rfl) (Nat.le_of_ble_eq_true rfl) (Nat.le_of_ble_eq_true rfl) (Nat.le_of_ble_eq_true rfl) (Nat.le_of_ble_eq_true rfl) rfl (fun h hR => ?_)
            refine yb_eq 71 61 C dX9_readAll_58 (by decide) rfl (fun c58 => ?_) (fun c58 => ?_)
            · refine yr_iinc1 74 C (1) dX9_readAll_71 rfl (by decide) rfl ?_
              rw [nI_1]
              refine yr_goto 2 C dX9_readAll_74 (by decide) ?_
              exact ih (i + 1) _ (by omega) (mB_fr hX (mFr_rw (m_rd_rw X i) rfl)) he h (by simpa [m_rd, c17, c40, c50, c58] using hR)
            · refine yr_aload_n 62 C dX9_readAll_61 rfl rfl rfl ?_
              refine ym_getA 65 C hR dX9_readAll_62 fl_X9_34 (by decide) rfl rfl ?_
              refine yr_iload_n 66 C dX9_readAll_65 rfl rfl ?_
              refine yr_aload_n 67 C dX9_readAll_66 rfl rfl rfl ?_
              refine ym_get 70 C hR dX9_readAll_67 fl_X9_133 (by decide) rfl rfl ?_
              refine ym_astN 71 C hR dX9_readAll_70 (by decide) rfl rfl ?_ rfl (fun h hR => ?_)
              · simp only [mL]; omega
              refine yr_iinc1 74 C (1) dX9_readAll_71 rfl (by decide) rfl ?_
              rw [nI_1]
              refine yr_goto 2 C dX9_readAll_74 (by decide) ?_
              exact ih (i + 1) _ (by omega) (mB_fr hX (mFr_rw (m_rd_rw X i) rfl)) he h (by simpa [m_rd, c17, c40, c50, c58] using hR)
      · refine yr_aload_n 21 C dX9_readAll_20 rfl rfl rfl ?_
        refine ym_getA 24 C hR dX9_readAll_21 fl_X9_50 (by decide) rfl rfl ?_
        refine yr_iload_n 25 C dX9_readAll_24 rfl rfl ?_
        refine yr_aload_n 26 C dX9_readAll_25 rfl rfl rfl ?_
        refine yr_iload_n 27 C dX9_readAll_26 rfl rfl ?_
        refine yr_V1v 30 C (mc_doesHold hZ _ (by omega) hX _ hR) dX9_readAll_27 mt_X9_doesHold mv_X9_doesHold ml_X9_198 hR.1 rfl (Nat.le_of_ble_eq_true rfl) (Nat.le_of_ble_eq_true rfl) (Nat.le_of_ble_eq_true rfl) (Nat.le_of_ble_eq_true rfl) (Nat.le_of_ble_eq_true rfl) rfl (fun h hR => ?_)
        refine ym_zastN 31 C hR dX9_readAll_30 (by decide) rfl rfl ?_ ?_ rfl (fun h hR => ?_)
        · simp only [mL]; omega
        · exact bI_or _
        refine yr_goto 71 C dX9_readAll_31 (by decide) ?_
        refine yr_iinc1 74 C (1) dX9_readAll_71 rfl (by decide) rfl ?_
        rw [nI_1]
        refine yr_goto 2 C dX9_readAll_74 (by decide) ?_
        exact ih (i + 1) _ (by omega) (mB_fr hX (mFr_rw (m_rd_rw X i) rfl)) he h (by simpa [m_rd, c17] using hR)
  exact loop2 np 0 S (by omega) hB rfl h hR
set_option maxHeartbeats 4000000 in
set_option maxRecDepth 100000 in
theorem mc_faultNow (hZ : yZok D dA Z)  (hB : mB S np ns nd nr t) (h : yH) (hR : yMR dA ad m0 (S) h) : yM Z D yX9_faultNow cX9_faultNow 2 (some .int) 0 0 0 [.ref m0] h (fun r h' => r = some (.int (m_fault S np nr)) ∧ yMR dA ad m0 (S) h') := by
  refine yM_of hZ (by decide) rfl (Nat.le_of_ble_eq_true rfl) ?_
  intro p l e s m args below meth c A C hr hin
  show yW p l e (yR 0 0 0) s m args below meth c 2 D A 0 0 _ 0 [some (.ref m0), none] [] h
  have k0 : S 1 0 = nI np ∧ np ≤ 8 := hB 0
  have k2 : S 29 0 = nI nr ∧ nr ≤ 6 := hB 2
  refine yr_iconst 1 C (0) dX9_faultNow_0 rfl rfl ?_
  refine yr_istore1 2 C dX9_faultNow_1 (by decide) rfl ?_
  have loop2 : ∀ (j i : Nat) , i + j = np → m_litL S j i = m_litL S np 0 → ∀ h : yH, yMR dA ad m0 (S) h → yW p l e (yR 0 0 0) s m args below meth c 2 D A 0 0 (yF D A (fun r h' => r = some (.int (m_fault S np nr)) ∧ yMR dA ad m0 (S) h') below args s 0 0) 2 [some (.ref m0), some (.int (nI i))] [] h := by
    intro j
    induction j with
    | zero =>
      intro i  hij he h hR
      refine yr_iload_n 3 C dX9_faultNow_2 rfl rfl ?_
      refine yr_aload_n 4 C dX9_faultNow_3 rfl rfl rfl ?_
      refine ym_get 7 C hR dX9_faultNow_4 fl_X9_120 (by decide) rfl rfl ?_
      rw [k0.1]
      refine yr_icmp_ge 47 10 C dX9_faultNow_7 (by decide) rfl (fun c7 => ?_) (fun c7 => ?_)
      rotate_left
      · exact absurd (nI_le (by omega) (by omega)) c7
      refine yr_iconst 48 C (0) dX9_faultNow_47 rfl rfl ?_
      refine yr_istore1 49 C dX9_faultNow_48 (by decide) rfl ?_
      have loop49 : ∀ (j i : Nat) , i + j = nr → m_brkL S j i = m_brkL S nr 0 → ∀ h : yH, yMR dA ad m0 (S) h → yW p l e (yR 0 0 0) s m args below meth c 2 D A 0 0 (yF D A (fun r h' => r = some (.int (m_fault S np nr)) ∧ yMR dA ad m0 (S) h') below args s 0 0) 49 [some (.ref m0), some (.int (nI i))] [] h := by
        intro j
        induction j with
        | zero =>
          intro i  hij hf h hR
          refine yr_iload_n 50 C dX9_faultNow_49 rfl rfl ?_
          refine yr_aload_n 51 C dX9_faultNow_50 rfl rfl rfl ?_
          refine ym_get 54 C hR dX9_faultNow_51 fl_X9_153 (by decide) rfl rfl ?_
          rw [k2.1]
          refine yr_icmp_ge 80 57 C dX9_faultNow_54 (by decide) rfl (fun c54 => ?_) (fun c54 => ?_)
          rotate_left
          · exact absurd (nI_le (by omega) (by omega)) c54
          refine yr_aload_n 81 C dX9_faultNow_80 rfl rfl rfl ?_
          refine ym_get 84 C hR dX9_faultNow_81 fl_X9_162 (by decide) rfl rfl ?_
          refine yr_if_eq 91 87 C dX9_faultNow_84 (by decide) rfl (fun c84 => ?_) (fun c84 => ?_)
          · refine yr_iconst 92 C (0) dX9_faultNow_91 rfl rfl ?_
            refine yr_iret C dX9_faultNow_92 hr (Nat.le_of_ble_eq_true rfl) (Nat.le_of_ble_eq_true rfl) ?_
            have e1 : m_litL S np 0 = false := he.symm
            have e2 : m_brkL S nr 0 = false := hf.symm
            exact ⟨by simp [m_fault, e1, e2, c84], hR⟩
          · refine yr_iconst 88 C (3) dX9_faultNow_87 rfl rfl ?_
            refine yr_goto 92 C dX9_faultNow_88 (by decide) ?_
            refine yr_iret C dX9_faultNow_92 hr (Nat.le_of_ble_eq_true rfl) (Nat.le_of_ble_eq_true rfl) ?_
            have e1 : m_litL S np 0 = false := he.symm
            have e2 : m_brkL S nr 0 = false := hf.symm
            exact ⟨by simp [m_fault, e1, e2, c84], hR⟩
        | succ j ih =>
          intro i  hij hf h hR
          refine yr_iload_n 50 C dX9_faultNow_49 rfl rfl ?_
          refine yr_aload_n 51 C dX9_faultNow_50 rfl rfl rfl ?_
          refine ym_get 54 C hR dX9_faultNow_51 fl_X9_153 (by decide) rfl rfl ?_
          rw [k2.1]
          refine yr_icmp_ge 80 57 C dX9_faultNow_54 (by decide) rfl (fun c54 => ?_) (fun c54 => ?_)
          · exact absurd c54 (nI_ge (by omega) (by omega))
          refine yr_aload_n 58 C dX9_faultNow_57 rfl rfl rfl ?_
          refine ym_getA 61 C hR dX9_faultNow_58 fl_X9_92 (by decide) rfl rfl ?_
          refine yr_iload_n 62 C dX9_faultNow_61 rfl rfl ?_
          refine ym_aldN 63 C hR dX9_faultNow_62 (by decide) rfl rfl ?_ rfl ?_
          · simp only [mL]; omega
          refine yr_aload_n 64 C dX9_faultNow_63 rfl rfl rfl ?_
          refine ym_getA 67 C hR dX9_faultNow_64 fl_X9_89 (by decide) rfl rfl ?_
          refine yr_iload_n 68 C dX9_faultNow_67 rfl rfl ?_
          refine ym_aldN 69 C hR dX9_faultNow_68 (by decide) rfl rfl ?_ rfl ?_
          · simp only [mL]; omega
          refine yr_icmp_lt 74 72 C dX9_faultNow_69 (by decide) rfl (fun c69 => ?_) (fun c69 => ?_)
          · refine yr_iinc1 77 C (1) dX9_faultNow_74 rfl (by decide) rfl ?_
            rw [nI_1]
            refine yr_goto 49 C dX9_faultNow_77 (by decide) ?_
            exact ih (i + 1) (by omega) (by rw [← hf]; simp [m_brkL, c69]) h hR
          · refine yr_iconst 73 C (2) dX9_faultNow_72 rfl rfl ?_
            refine yr_iret C dX9_faultNow_73 hr (Nat.le_of_ble_eq_true rfl) (Nat.le_of_ble_eq_true rfl) ?_
            have e1 : m_litL S np 0 = false := he.symm
            have e2 : m_brkL S nr 0 = true := by rw [← hf]; simp [m_brkL, c69]
            exact ⟨by simp [m_fault, e1, e2], hR⟩
      exact loop49 nr 0 (by omega) rfl h hR
    | succ j ih =>
      intro i  hij he h hR
      refine yr_iload_n 3 C dX9_faultNow_2 rfl rfl ?_
      refine yr_aload_n 4 C dX9_faultNow_3 rfl rfl rfl ?_
      refine ym_get 7 C hR dX9_faultNow_4 fl_X9_120 (by decide) rfl rfl ?_
      rw [k0.1]
      refine yr_icmp_ge 47 10 C dX9_faultNow_7 (by decide) rfl (fun c7 => ?_) (fun c7 => ?_)
      · exact absurd c7 (nI_ge (by omega) (by omega))
      refine yr_aload_n 11 C dX9_faultNow_10 rfl rfl rfl ?_
      refine ym_getA 14 C hR dX9_faultNow_11 fl_X9_46 (by decide) rfl rfl ?_
      refine yr_iload_n 15 C dX9_faultNow_14 rfl rfl ?_
      refine ym_zaldN 16 C hR dX9_faultNow_15 (by decide) rfl rfl ?_ rfl ?_
      · simp only [mL]; omega
      refine yr_if_eq 41 19 C dX9_faultNow_16 (by decide) rfl (fun c16 => ?_) (fun c16 => ?_)
      · refine yr_iinc1 44 C (1) dX9_faultNow_41 rfl (by decide) rfl ?_
        rw [nI_1]
        refine yr_goto 2 C dX9_faultNow_44 (by decide) ?_
        exact ih (i + 1) (by omega) (by rw [← he]; simp [m_litL, c16]) h hR
      · refine yr_aload_n 20 C dX9_faultNow_19 rfl rfl rfl ?_
        refine ym_getA 23 C hR dX9_faultNow_20 fl_X9_13 (by decide) rfl rfl ?_
        refine yr_iload_n 24 C dX9_faultNow_23 rfl rfl ?_
        refine ym_aldN 25 C hR dX9_faultNow_24 (by decide) rfl rfl ?_ rfl ?_
        · simp only [mL]; omega
        refine yr_iconst 26 C (1) dX9_faultNow_25 rfl rfl ?_
        refine yr_icmp_eq 39 29 C dX9_faultNow_26 (by decide) rfl (fun c26 => ?_) (fun c26 => ?_)
        · refine yr_iconst 40 C (1) dX9_faultNow_39 rfl rfl ?_
          refine yr_iret C dX9_faultNow_40 hr (Nat.le_of_ble_eq_true rfl) (Nat.le_of_ble_eq_true rfl) ?_
          have e1 : m_litL S np 0 = true := by rw [← he]; simp [m_litL, c16, c26]
          exact ⟨by simp [m_fault, e1], hR⟩
        · refine yr_aload_n 30 C dX9_faultNow_29 rfl rfl rfl ?_
          refine ym_getA 33 C hR dX9_faultNow_30 fl_X9_13 (by decide) rfl rfl ?_
          refine yr_iload_n 34 C dX9_faultNow_33 rfl rfl ?_
          refine ym_aldN 35 C hR dX9_faultNow_34 (by decide) rfl rfl ?_ rfl ?_
          · simp only [mL]; omega
          refine yr_iconst 36 C (2) dX9_faultNow_35 rfl rfl ?_
          refine yr_icmp_ne 41 39 C dX9_faultNow_36 (by decide) rfl (fun c36 => ?_) (fun c36 => ?_)
          · refine yr_iinc1 44 C (1) dX9_faultNow_41 rfl (by decide) rfl ?_
            rw [nI_1]
            refine yr_goto 2 C dX9_faultNow_44 (by decide) ?_
            exact ih (i + 1) (by omega) (by rw [← he]; simp [m_litL, c16, c26, c36]) h hR
          · refine yr_iconst 40 C (1) dX9_faultNow_39 rfl rfl ?_
            refine yr_iret C dX9_faultNow_40 hr (Nat.le_of_ble_eq_true rfl) (Nat.le_of_ble_eq_true rfl) ?_
            have e1 : m_litL S np 0 = true := by rw [← he]; simp [m_litL, c16, c26, c36]
            exact ⟨by simp [m_fault, e1], hR⟩
  exact loop2 np 0 (by omega) rfl h hR
set_option maxHeartbeats 4000000 in
set_option maxRecDepth 100000 in
theorem mc_meetFault (hZ : yZok D dA Z) (v : Int32) (hB : mB S np ns nd nr t) (h : yH) (hR : yMR dA ad m0 (S) h) : yM Z D yX9_meetFault cX9_meetFault 3 none 3 0 0 [.ref m0, .int v] h (fun r h' => r = none ∧ yMR dA ad m0 (m_meet S v np nr) h') := by
  refine yM_of hZ (by decide) rfl (Nat.le_of_ble_eq_true rfl) ?_
  intro p l e s m args below meth c A C hr hin
  show yW p l e (yR 3 0 0) s m args below meth c 3 D A 0 0 _ 0 [some (.ref m0), some (.int v), none] [] h
  refine yr_aload_n 1 C dX9_meetFault_0 rfl rfl rfl ?_
  refine yr_dup 2 C dX9_meetFault_1 rfl rfl ?_
  refine ym_get 5 C hR dX9_meetFault_2 fl_X9_204 (by decide) rfl rfl ?_
  refine yr_iconst 6 C (1) dX9_meetFault_5 rfl rfl ?_
  refine yr_iadd 7 C dX9_meetFault_6 rfl ?_
  refine ym_put 10 C hR dX9_meetFault_7 fp_X9_204 (by decide) rfl rfl (fun h hR => ?_)
  refine yr_aload_n 11 C dX9_meetFault_10 rfl rfl rfl ?_
  refine yr_iload_n 12 C dX9_meetFault_11 rfl rfl ?_
  refine ym_put 15 C hR dX9_meetFault_12 fp_X9_207 (by decide) rfl rfl (fun h hR => ?_)
  refine yr_aload_n 16 C dX9_meetFault_15 rfl rfl rfl ?_
  refine yr_aload_n 17 C dX9_meetFault_16 rfl rfl rfl ?_
  refine ym_get 20 C hR dX9_meetFault_17 fl_X9_133 (by decide) rfl rfl ?_
  refine ym_put 23 C hR dX9_meetFault_20 fp_X9_105 (by decide) rfl rfl (fun h hR => ?_)
  refine yr_aload_n 24 C dX9_meetFault_23 rfl rfl rfl ?_
  refine yr_aload_n 25 C dX9_meetFault_24 rfl rfl rfl ?_
  refine ym_get 28 C hR dX9_meetFault_25 fl_X9_204 (by decide) rfl rfl ?_
  refine ym_put 31 C hR dX9_meetFault_28 fp_X9_210 (by decide) rfl rfl (fun h hR => ?_)
  refine yr_aload_n 32 C dX9_meetFault_31 rfl rfl rfl ?_
  refine yr_iconst 33 C (1) dX9_meetFault_32 rfl rfl ?_
  refine ym_put 36 C hR dX9_meetFault_33 fp_X9_159 (by decide) rfl rfl (fun h hR => ?_)
  replace hR : yMR dA ad m0 (m_mf1 S v) h := by simpa [m_mf1, mset_ne, mset_same] using hR
  refine yr_iconst 37 C (0) dX9_meetFault_36 rfl rfl ?_
  refine yr_istore2 38 C dX9_meetFault_37 (by decide) rfl ?_
  have loop38 : ∀ (j i : Nat) (X : yS), i + j = np → mB X np ns nd nr t → m_mfL np j i X = m_mfL np np 0 (m_mf1 S v) → ∀ h : yH, yMR dA ad m0 (X) h → yW p l e (yR 3 0 0) s m args below meth c 3 D A 0 0 (yF D A (fun r h' => r = none ∧ yMR dA ad m0 (m_meet S v np nr) h') below args s 0 0) 38 [some (.ref m0), some (.int v), some (.int (nI i))] [] h := by
    intro j
    induction j with
    | zero =>
      intro i X hij hX he h hR
      have x0 : X 1 0 = nI np ∧ np ≤ 8 := hX 0
      have x3 : X 0 0 = nI t ∧ t < 2 ^ 20 ∧ nd ≤ 12 := hX 3
      have x2 : X 29 0 = nI nr ∧ nr ≤ 6 := hX 2
      refine yr_iload_n 39 C dX9_meetFault_38 rfl rfl ?_
      refine yr_aload_n 40 C dX9_meetFault_39 rfl rfl rfl ?_
      refine ym_get 43 C hR dX9_meetFault_40 fl_X9_120 (by decide) rfl rfl ?_
      rw [x0.1]
      refine yr_icmp_ge 87 46 C dX9_meetFault_43 (by decide) rfl (fun c43 => ?_) (fun c43 => ?_)
      rotate_left
      · exact absurd (nI_le (by omega) (by omega)) c43
      refine yr_aload_n 88 C dX9_meetFault_87 rfl rfl rfl ?_
      refine yr_bipush 90 C (-5) dX9_meetFault_88 rfl rfl ?_
      refine ym_put 93 C hR dX9_meetFault_90 fp_X9_95 (by decide) rfl rfl (fun h hR => ?_)
      refine yr_aload_n 94 C dX9_meetFault_93 rfl rfl rfl ?_
      refine yr_bipush 96 C (-5) dX9_meetFault_94 rfl rfl ?_
      refine ym_put 99 C hR dX9_meetFault_96 fp_X9_102 (by decide) rfl rfl (fun h hR => ?_)
      refine yr_aload_n 100 C dX9_meetFault_99 rfl rfl rfl ?_
      refine yr_iconst 101 C (0) dX9_meetFault_100 rfl rfl ?_
      refine ym_putZ 104 C hR dX9_meetFault_101 fp_X9_162 (by decide) rfl ?_ rfl (fun h hR => ?_)
      · exact Or.inl rfl
      replace hR : yMR dA ad m0 (m_mf2 X) h := hR
      refine yr_iconst 105 C (0) dX9_meetFault_104 rfl rfl ?_
      refine yr_istore2 106 C dX9_meetFault_105 (by decide) rfl ?_
      have loop106 : ∀ (j i : Nat) (V : yS), i + j = nr → mB V np ns nd nr t → m_clrL j i V = m_meet S v np nr → ∀ h : yH, yMR dA ad m0 (V) h → yW p l e (yR 3 0 0) s m args below meth c 3 D A 0 0 (yF D A (fun r h' => r = none ∧ yMR dA ad m0 (m_meet S v np nr) h') below args s 0 0) 106 [some (.ref m0), some (.int v), some (.int (nI i))] [] h := by
        intro j
        induction j with
        | zero =>
          intro i V hij hV hf h hR
          have x0 : V 1 0 = nI np ∧ np ≤ 8 := hV 0
          have x3 : V 0 0 = nI t ∧ t < 2 ^ 20 ∧ nd ≤ 12 := hV 3
          have x2 : V 29 0 = nI nr ∧ nr ≤ 6 := hV 2
          refine yr_iload_n 107 C dX9_meetFault_106 rfl rfl ?_
          refine yr_aload_n 108 C dX9_meetFault_107 rfl rfl rfl ?_
          refine ym_get 111 C hR dX9_meetFault_108 fl_X9_153 (by decide) rfl rfl ?_
          rw [x2.1]
          refine yr_icmp_ge 127 114 C dX9_meetFault_111 (by decide) rfl (fun c111 => ?_) (fun c111 => ?_)
          rotate_left
          · exact absurd (nI_le (by omega) (by omega)) c111
          refine yr_vret C dX9_meetFault_127 hr (Nat.le_of_ble_eq_true rfl) (Nat.le_of_ble_eq_true rfl) ?_
          exact ⟨rfl, by rw [← hf]; exact hR⟩
        | succ j ih =>
          intro i V hij hV hf h hR
          have x0 : V 1 0 = nI np ∧ np ≤ 8 := hV 0
          have x3 : V 0 0 = nI t ∧ t < 2 ^ 20 ∧ nd ≤ 12 := hV 3
          have x2 : V 29 0 = nI nr ∧ nr ≤ 6 := hV 2
          refine yr_iload_n 107 C dX9_meetFault_106 rfl rfl ?_
          refine yr_aload_n 108 C dX9_meetFault_107 rfl rfl rfl ?_
          refine ym_get 111 C hR dX9_meetFault_108 fl_X9_153 (by decide) rfl rfl ?_
          rw [x2.1]
          refine yr_icmp_ge 127 114 C dX9_meetFault_111 (by decide) rfl (fun c111 => ?_) (fun c111 => ?_)
          · exact absurd c111 (nI_ge (by omega) (by omega))
          refine yr_aload_n 115 C dX9_meetFault_114 rfl rfl rfl ?_
          refine ym_getA 118 C hR dX9_meetFault_115 fl_X9_92 (by decide) rfl rfl ?_
          refine yr_iload_n 119 C dX9_meetFault_118 rfl rfl ?_
          refine yr_iconst 120 C (0) dX9_meetFault_119 rfl rfl ?_
          refine ym_astN 121 C hR dX9_meetFault_120 (by decide) rfl rfl ?_ rfl (fun h hR => ?_)
          · simp only [mL]; omega
          refine yr_iinc2 124 C (1) dX9_meetFault_121 rfl (by decide) rfl ?_
          rw [nI_1]
          refine yr_goto 106 C dX9_meetFault_124 (by decide) ?_
          exact ih (i + 1) _ (by omega) (mB_fr hV (mFr_set V i 0 (show mFk 33 = true from rfl))) hf h hR
      exact loop106 nr 0 _ (by omega) (mB_fr hX (mFr_rw (m_mf2_rw X) rfl)) (by unfold m_meet; rw [← he]; rfl) h hR
    | succ j ih =>
      intro i X hij hX he h hR
      have x0 : X 1 0 = nI np ∧ np ≤ 8 := hX 0
      have x3 : X 0 0 = nI t ∧ t < 2 ^ 20 ∧ nd ≤ 12 := hX 3
      have x2 : X 29 0 = nI nr ∧ nr ≤ 6 := hX 2
      refine yr_iload_n 39 C dX9_meetFault_38 rfl rfl ?_
      refine yr_aload_n 40 C dX9_meetFault_39 rfl rfl rfl ?_
      refine ym_get 43 C hR dX9_meetFault_40 fl_X9_120 (by decide) rfl rfl ?_
      rw [x0.1]
      refine yr_icmp_ge 87 46 C dX9_meetFault_43 (by decide) rfl (fun c43 => ?_) (fun c43 => ?_)
      · exact absurd c43 (nI_ge (by omega) (by omega))
      refine yr_aload_n 47 C dX9_meetFault_46 rfl rfl rfl ?_
      refine ym_getA 50 C hR dX9_meetFault_47 fl_X9_13 (by decide) rfl rfl ?_
      refine yr_iload_n 51 C dX9_meetFault_50 rfl rfl ?_
      refine ym_aldN 52 C hR dX9_meetFault_51 (by decide) rfl rfl ?_ rfl ?_
      · simp only [mL]; omega
      refine yr_iconst 53 C (1) dX9_meetFault_52 rfl rfl ?_
      refine yr_icmp_eq 66 56 C dX9_meetFault_53 (by decide) rfl (fun c53 => ?_) (fun c53 => ?_)
      · refine yr_aload_n 67 C dX9_meetFault_66 rfl rfl rfl ?_
        refine yr_iload_n 68 C dX9_meetFault_67 rfl rfl ?_
        refine yr_iconst 69 C (0) dX9_meetFault_68 rfl rfl ?_
        refine yr_V2u 72 C (mc_change hZ _ (by omega) _ hX _ hR) dX9_meetFault_69 mt_X9_change mv_X9_change ml_X9_213 hR.1 rfl (Nat.le_of_ble_eq_true rfl) (Nat.le_of_ble_eq_true rfl) (Nat.le_of_ble_eq_true rfl) (Nat.le_of_ble_eq_true rfl) (Nat.le_of_ble_eq_true rfl) rfl (fun h hR => ?_)
        refine yr_aload_n 73 C dX9_meetFault_72 rfl rfl rfl ?_
        refine yr_iload_n 74 C dX9_meetFault_73 rfl rfl ?_
        refine yr_aload_n 75 C dX9_meetFault_74 rfl rfl rfl ?_
        refine ym_get 78 C hR dX9_meetFault_75 fl_X9_133 (by decide) rfl rfl ?_
        refine yr_V2u 81 C (mc_endsIn hZ _ (by omega) _ (mB_fr hX (m_change_fr X i 0)) _ hR) dX9_meetFault_78 mt_X9_endsIn mv_X9_endsIn ml_X9_216 hR.1 rfl (Nat.le_of_ble_eq_true rfl) (Nat.le_of_ble_eq_true rfl) (Nat.le_of_ble_eq_true rfl) (Nat.le_of_ble_eq_true rfl) (Nat.le_of_ble_eq_true rfl) rfl (fun h hR => ?_)
        refine yr_iinc2 84 C (1) dX9_meetFault_81 rfl (by decide) rfl ?_
        rw [nI_1]
        refine yr_goto 38 C dX9_meetFault_84 (by decide) ?_
        exact ih (i + 1) _ (by omega) (mB_fr hX (mFr_rw (m_mfS_rw np X i) rfl)) he h (by simpa [m_mfS, c53] using hR)
      · refine yr_aload_n 57 C dX9_meetFault_56 rfl rfl rfl ?_
        refine ym_getA 60 C hR dX9_meetFault_57 fl_X9_13 (by decide) rfl rfl ?_
        refine yr_iload_n 61 C dX9_meetFault_60 rfl rfl ?_
        refine ym_aldN 62 C hR dX9_meetFault_61 (by decide) rfl rfl ?_ rfl ?_
        · simp only [mL]; omega
        refine yr_iconst 63 C (2) dX9_meetFault_62 rfl rfl ?_
        refine yr_icmp_ne 81 66 C dX9_meetFault_63 (by decide) rfl (fun c63 => ?_) (fun c63 => ?_)
        · refine yr_iinc2 84 C (1) dX9_meetFault_81 rfl (by decide) rfl ?_
          rw [nI_1]
          refine yr_goto 38 C dX9_meetFault_84 (by decide) ?_
          exact ih (i + 1) _ (by omega) (mB_fr hX (mFr_rw (m_mfS_rw np X i) rfl)) he h (by simpa [m_mfS, c53, c63] using hR)
        · refine yr_aload_n 67 C dX9_meetFault_66 rfl rfl rfl ?_
          refine yr_iload_n 68 C dX9_meetFault_67 rfl rfl ?_
          refine yr_iconst 69 C (0) dX9_meetFault_68 rfl rfl ?_
          refine yr_V2u 72 C (mc_change hZ _ (by omega) _ hX _ hR) dX9_meetFault_69 mt_X9_change mv_X9_change ml_X9_213 hR.1 rfl (Nat.le_of_ble_eq_true rfl) (Nat.le_of_ble_eq_true rfl) (Nat.le_of_ble_eq_true rfl) (Nat.le_of_ble_eq_true rfl) (Nat.le_of_ble_eq_true rfl) rfl (fun h hR => ?_)
          refine yr_aload_n 73 C dX9_meetFault_72 rfl rfl rfl ?_
          refine yr_iload_n 74 C dX9_meetFault_73 rfl rfl ?_
          refine yr_aload_n 75 C dX9_meetFault_74 rfl rfl rfl ?_
          refine ym_get 78 C hR dX9_meetFault_75 fl_X9_133 (by decide) rfl rfl ?_
          refine yr_V2u 81 C (mc_endsIn hZ _ (by omega) _ (mB_fr hX (m_change_fr X i 0)) _ hR) dX9_meetFault_78 mt_X9_endsIn mv_X9_endsIn ml_X9_216 hR.1 rfl (Nat.le_of_ble_eq_true rfl) (Nat.le_of_ble_eq_true rfl) (Nat.le_of_ble_eq_true rfl) (Nat.le_of_ble_eq_true rfl) (Nat.le_of_ble_eq_true rfl) rfl (fun h hR => ?_)
          refine yr_iinc2 84 C (1) dX9_meetFault_81 rfl (by decide) rfl ?_
          rw [nI_1]
          refine yr_goto 38 C dX9_meetFault_84 (by decide) ?_
          exact ih (i + 1) _ (by omega) (mB_fr hX (mFr_rw (m_mfS_rw np X i) rfl)) he h (by simpa [m_mfS, c53, c63] using hR)
  exact loop38 np 0 _ (by omega) (mB_fr hB (mFr_rw (m_mf1_rw S v) rfl)) rfl h hR
end M7
