theorem nI_lit_le {a i : Nat} (h : a ≤ i) (hi : i < 2 ^ 31) : nI a ≤ nI i := nI_le h hi
theorem ixm {a b c : Nat} : nI a * nI b + nI c = nI (a * b + c) := by rw [pk_mul, nI_add]
theorem bI_or1 (a b : Bool) : bI a ||| bI b = bI (a || b) := by cases a <;> cases b <;> rfl
theorem bI_t : (1 : Int32) = bI true := rfl
theorem bI_f : (0 : Int32) = bI false := rfl
theorem nI_nle4 {a b : Nat} (h : a < b) (hb : b < 2 ^ 31) : ¬ nI b ≤ nI a := nI_ge h hb
def m_meets (S : yS) (p q : Nat) : Bool := decide (0 < S 16 (8 * p + q))
def m_hasL (S : yS) (s : Nat) (q : Int32) : Nat → Nat → Bool → Bool
  | 0, _, a => a
  | j + 1, i, a => m_hasL S s q j (i + 1) (a || decide (S 18 (4 * s + i) = q))
def m_has (S : yS) (s : Nat) (q : Int32) : Bool := m_hasL S s q 4 0 false
section M2
variable {Z : (Nat → Prop) → State → Prop} {D : va_G} {dA : Nat → ClassId} {ad : Nat → Nat} {m0 : Nat} {S : yS}
set_option maxHeartbeats 4000000 in
set_option maxRecDepth 100000 in
theorem mc_meets (hZ : yZok D dA Z) (a b : Nat) (ha : a < 8) (hb : b < 8)  (h : yH) (hR : yMR dA ad m0 (S) h) : yM Z D yX9_meets cX9_meets 3 (some .boolean) 0 0 0 [.ref m0, .int (nI a), .int (nI b)] h (fun r h' => r = some (.int (bI (m_meets S a b))) ∧ yMR dA ad m0 (S) h') := by
  refine yM_of hZ (by decide) rfl (Nat.le_of_ble_eq_true rfl) ?_
  intro p l e s m args below meth c A C hr hin
  show yW p l e (yR 0 0 0) s m args below meth c 3 D A 0 0 _ 0 [some (.ref m0), some (.int (nI a)), some (.int (nI b))] [] h
  refine yr_aload_n 1 C dX9_meets_0 rfl rfl rfl ?_
  refine ym_getA 4 C hR dX9_meets_1 fl_X9_53 (by decide) rfl rfl ?_
  refine yr_bipush 6 C (8) dX9_meets_4 rfl rfl ?_
  refine yr_iload_n 7 C dX9_meets_6 rfl rfl ?_
  refine yr_imul 8 C dX9_meets_7 rfl ?_
  refine yr_iload_n 9 C dX9_meets_8 rfl rfl ?_
  refine yr_iadd 10 C dX9_meets_9 rfl ?_
  rw [show (8 : Int32) * nI a + nI b = nI (8 * a + b) from ixm]
  refine ym_aldN 11 C hR dX9_meets_10 (by decide) rfl rfl ?_ rfl ?_
  · simp only [mL]; omega
  refine yr_if_le 18 14 C dX9_meets_11 (by decide) rfl (fun c11 => ?_) (fun c11 => ?_)
  · refine yr_iconst 19 C (0) dX9_meets_18 rfl rfl ?_
    refine yr_zret C dX9_meets_19 hr ?_ (Nat.le_of_ble_eq_true rfl) (Nat.le_of_ble_eq_true rfl) ?_
    · decide
    refine ⟨?_, hR⟩
    simp [m_meets, bI, Int32.not_lt.mpr, Int32.not_le.mp, c11]
  · refine yr_iconst 15 C (1) dX9_meets_14 rfl rfl ?_
    refine yr_goto 19 C dX9_meets_15 (by decide) ?_
    refine yr_zret C dX9_meets_19 hr ?_ (Nat.le_of_ble_eq_true rfl) (Nat.le_of_ble_eq_true rfl) ?_
    · decide
    refine ⟨?_, hR⟩
    simp [m_meets, bI, Int32.not_lt.mpr, Int32.not_le.mp, c11]
set_option maxHeartbeats 4000000 in
set_option maxRecDepth 100000 in
theorem mc_has (hZ : yZok D dA Z) (a : Nat) (ha : a < 6) (q : Int32)  (h : yH) (hR : yMR dA ad m0 (S) h) : yM Z D yX9_has cX9_has 5 (some .boolean) 0 0 0 [.ref m0, .int (nI a), .int q] h (fun r h' => r = some (.int (bI (m_has S a q))) ∧ yMR dA ad m0 (S) h') := by
  refine yM_of hZ (by decide) rfl (Nat.le_of_ble_eq_true rfl) ?_
  intro p l e s m args below meth c A C hr hin
  show yW p l e (yR 0 0 0) s m args below meth c 5 D A 0 0 _ 0 [some (.ref m0), some (.int (nI a)), some (.int q), none, none] [] h
  refine yr_iconst 1 C (0) dX9_has_0 rfl rfl ?_
  refine yr_istore3 2 C dX9_has_1 (by decide) rfl ?_
  refine yr_iconst 3 C (0) dX9_has_2 rfl rfl ?_
  refine yr_istore4 5 C dX9_has_3 (by decide) rfl ?_
  have loop5 : ∀ (j i : Nat) (b : Bool), i + j = 4 → m_hasL S a q j i b = m_has S a q → ∀ h : yH, yMR dA ad m0 (S) h → yW p l e (yR 0 0 0) s m args below meth c 5 D A 0 0 (yF D A (fun r h' => r = some (.int (bI (m_has S a q))) ∧ yMR dA ad m0 (S) h') below args s 0 0) 5 [some (.ref m0), some (.int (nI a)), some (.int q), some (.int (bI b)), some (.int (nI i))] [] h := by
    intro j
    induction j with
    | zero =>
      intro i b hij he h hR
      obtain rfl : i = 4 := by omega
      refine yr_iload 7 C dX9_has_5 rfl rfl ?_
      refine yr_iconst 8 C (4) dX9_has_7 rfl rfl ?_
      refine yr_icmp_ge 40 11 C dX9_has_8 (by decide) rfl (fun c8 => ?_) (fun c8 => ?_)
      rotate_left
      · exact absurd (by decide) c8
      refine yr_iload_n 41 C dX9_has_40 rfl rfl ?_
      refine yr_zret C dX9_has_41 hr ?_ (Nat.le_of_ble_eq_true rfl) (Nat.le_of_ble_eq_true rfl) ?_
      · exact bI_or _
      refine ⟨?_, hR⟩
      rw [← he]
      rfl
    | succ j ih =>
      intro i b hij he h hR
      refine yr_iload 7 C dX9_has_5 rfl rfl ?_
      refine yr_iconst 8 C (4) dX9_has_7 rfl rfl ?_
      refine yr_icmp_ge 40 11 C dX9_has_8 (by decide) rfl (fun c8 => ?_) (fun c8 => ?_)
      · exact absurd c8 (nI_ge (b := 4) (by omega) (by decide))
      refine yr_iload_n 12 C dX9_has_11 rfl rfl ?_
      refine yr_aload_n 13 C dX9_has_12 rfl rfl rfl ?_
      refine ym_getA 16 C hR dX9_has_13 fl_X9_56 (by decide) rfl rfl ?_
      refine yr_iconst 17 C (4) dX9_has_16 rfl rfl ?_
      refine yr_iload_n 18 C dX9_has_17 rfl rfl ?_
      refine yr_imul 19 C dX9_has_18 rfl ?_
      refine yr_iload 21 C dX9_has_19 rfl rfl ?_
      refine yr_iadd 22 C dX9_has_21 rfl ?_
      rw [show (4 : Int32) * nI a + nI i = nI (4 * a + i) from ixm]
      refine ym_aldN 23 C hR dX9_has_22 (by decide) rfl rfl ?_ rfl ?_
      · simp only [mL]; omega
      refine yr_iload_n 24 C dX9_has_23 rfl rfl ?_
      refine yr_icmp_ne 31 27 C dX9_has_24 (by decide) rfl (fun c24 => ?_) (fun c24 => ?_)
      · refine yr_iconst 32 C (0) dX9_has_31 rfl rfl ?_
        refine yr_ior 33 C dX9_has_32 rfl ?_
        first | rw [show bI b ||| 1 = bI (b || decide (S 18 (4 * a + i) = q)) from by rw [bI_t, bI_or1]; simp [c24]] | rw [show bI b ||| 0 = bI (b || decide (S 18 (4 * a + i) = q)) from by rw [bI_f, bI_or1]; simp [c24]]
        refine yr_istore3 34 C dX9_has_33 (by decide) rfl ?_
        refine yr_iinc4 37 C (1) dX9_has_34 rfl (by decide) rfl ?_
        rw [nI_1]
        refine yr_goto 5 C dX9_has_37 (by decide) ?_
        exact ih (i + 1) _ (by omega) he h hR
      · skip
        refine yr_iconst 28 C (1) dX9_has_27 rfl rfl ?_
        refine yr_goto 32 C dX9_has_28 (by decide) ?_
        refine yr_ior 33 C dX9_has_32 rfl ?_
        first | rw [show bI b ||| 1 = bI (b || decide (S 18 (4 * a + i) = q)) from by rw [bI_t, bI_or1]; simp [c24]] | rw [show bI b ||| 0 = bI (b || decide (S 18 (4 * a + i) = q)) from by rw [bI_f, bI_or1]; simp [c24]]
        refine yr_istore3 34 C dX9_has_33 (by decide) rfl ?_
        refine yr_iinc4 37 C (1) dX9_has_34 rfl (by decide) rfl ?_
        rw [nI_1]
        refine yr_goto 5 C dX9_has_37 (by decide) ?_
        exact ih (i + 1) _ (by omega) he h hR
  exact loop5 4 0 false rfl rfl h hR
end M2
