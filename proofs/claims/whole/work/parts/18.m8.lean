theorem or_0 {a b : Bool} (h : b = false) : bI a ||| 0 = bI (a || b) := by subst h; cases a <;> rfl
theorem or_1 {a b : Bool} (h : b = true) : bI a ||| 1 = bI (a || b) := by subst h; cases a <;> rfl
def m_anL (S : yS) : Nat → Nat → Bool → Bool
  | 0, _, a => a
  | j + 1, i, a => m_anL S j (i + 1) (a || (!decide (nI i = S 34 0) && !decide (m_asked S i < 0)))
def m_another (S : yS) (ns : Nat) : Bool := m_anL S ns 0 (!decide (S 39 0 < 0) && !decide (S 39 0 = S 34 0))
def m_hdL (S : yS) (g : Nat) : Nat → Nat → Bool → Bool
  | 0, _, a => a
  | j + 1, i, a => m_hdL S g j (i + 1) (a || (!decide (S 18 (4 * g + i) < 0) && !decide (S 15 (ix (S 18 (4 * g + i))) = 0)))
def m_peS (np g : Nat) (S : yS) (i : Nat) : yS := if S 18 (4 * g + i) < 0 then S else m_endsIn (m_change S (ix (S 18 (4 * g + i))) (if S 13 (ix (S 18 (4 * g + i))) ≤ 0 then 0 else 2)) np (ix (S 18 (4 * g + i))) (m_change S (ix (S 18 (4 * g + i))) (if S 13 (ix (S 18 (4 * g + i))) ≤ 0 then 0 else 2) 0 0 + m_change S (ix (S 18 (4 * g + i))) (if S 13 (ix (S 18 (4 * g + i))) ≤ 0 then 0 else 2) 13 (ix (S 18 (4 * g + i))))
def m_peL (np g : Nat) : Nat → Nat → yS → yS
  | 0, _, S => S
  | j + 1, i, S => m_peL np g j (i + 1) (m_peS np g S i)
def m_ends (S : yS) (g : Nat) : Bool := decide (S 37 0 ≤ S 0 0 - S 35 0) || (decide (0 ≤ S 39 0) || !m_hdL S g 4 0 false)
def m_pEnd (S : yS) (np ns : Nat) : yS := if S 34 0 < 0 then S else if m_another S ns then (if S 36 0 ≤ S 0 0 - S 35 0 then (if m_ends S (ix (S 34 0)) then mset (m_peL np (ix (S 34 0)) 4 0 S) 34 0 (-5) else S) else S) else S
theorem m_peS_rw (np g : Nat) (S : yS) (i : Nat) : mRw lCE S (m_peS np g S i) := by
  unfold m_peS
  split
  · exact mRw_rf S
  · exact mRw_tr (mRw_mono (m_change_rw S _ _) rfl) (mRw_mono (m_endsIn_rw _ np _ _) rfl)
theorem m_peL_rw (np g : Nat) : ∀ (j i : Nat) (S : yS), mRw lCE S (m_peL np g j i S)
  | 0, _, S => mRw_rf S
  | j + 1, i, S => mRw_tr (m_peS_rw np g S i) (m_peL_rw np g j (i + 1) _)
abbrev lPE : List Nat := [3, 5, 6, 8, 9, 34, 46, 47, 48, 49]
theorem m_pEnd_rw (S : yS) (np ns : Nat) : mRw lPE S (m_pEnd S np ns) := by
  unfold m_pEnd
  repeat' split
  all_goals first | exact mRw_rf S | exact mRw_tr (mRw_mono (m_peL_rw np _ 4 0 S) rfl) (mRw_set _ _ _ rfl)
def m_mayL (S : yS) (g : Nat) : Nat → Nat → Bool
  | 0, _ => true
  | j + 1, i => if S 18 (4 * g + i) < 0 then m_mayL S g j (i + 1) else if S 3 (ix (S 18 (4 * g + i))) = 0 then (if S 9 (ix (S 18 (4 * g + i))) ≤ S 0 0 then m_mayL S g j (i + 1) else false) else false
def m_pb1 (S : yS) (n : Int32) : yS := mset (mset (mset S 34 0 n) 38 0 n) 35 0 (S 0 0)
def m_pb2 (S : yS) (g : Nat) : yS := mset S 36 0 (m_least S g)
def m_pb3 (S : yS) (g : Nat) : yS := mset S 37 0 (m_great S g)
def m_pb4 (S : yS) (n : Int32) : yS := mset S 39 0 (if S 39 0 = n then -5 else S 39 0)
def m_pbS (g : Nat) (S : yS) (i : Nat) : yS := if S 18 (4 * g + i) < 0 then S else mset (mset (m_change S (ix (S 18 (4 * g + i))) 1) 7 (ix (S 18 (4 * g + i))) (m_change S (ix (S 18 (4 * g + i))) 1 7 (ix (S 18 (4 * g + i))) + 1)) 10 (ix (S 18 (4 * g + i))) (-5)
def m_pbL (g : Nat) : Nat → Nat → yS → yS
  | 0, _, S => S
  | j + 1, i, S => m_pbL g j (i + 1) (m_pbS g S i)
def m_begin (S : yS) (g : Nat) : yS := m_pbL g 4 0 (m_pb4 (m_pb3 (m_pb2 (m_pb1 S (nI g)) g) g) (nI g))
def m_pBegin (S : yS) (ns : Nat) : yS := if 0 ≤ S 34 0 then S else if 0 ≤ m_next S ns then (if m_mayL S (ix (m_next S ns)) 4 0 then m_begin S (ix (m_next S ns)) else S) else S
abbrev lPb : List Nat := [3, 5, 6, 7, 10, 46, 47, 48, 49]
theorem m_pbS_rw (g : Nat) (S : yS) (i : Nat) : mRw lPb S (m_pbS g S i) := by
  unfold m_pbS
  split
  · exact mRw_rf S
  · exact mRw_tr (mRw_tr (mRw_mono (m_change_rw S _ _) rfl) (mRw_set _ _ _ rfl)) (mRw_set _ _ _ rfl)
theorem m_pbL_rw (g : Nat) : ∀ (j i : Nat) (S : yS), mRw lPb S (m_pbL g j i S)
  | 0, _, S => mRw_rf S
  | j + 1, i, S => mRw_tr (m_pbS_rw g S i) (m_pbL_rw g j (i + 1) _)
abbrev lBeg : List Nat := [3, 5, 6, 7, 10, 34, 35, 36, 37, 38, 39, 46, 47, 48, 49]
theorem m_begin_rw (S : yS) (g : Nat) : mRw lBeg S (m_begin S g) := mRw_tr (mRw_tr (mRw_tr (mRw_tr (mRw_tr (mRw_tr (mRw_tr (S' := mset S 34 0 (nI g)) (mRw_set S _ _ rfl) (mRw_set _ _ _ rfl)) (mRw_set _ _ _ rfl)) (mRw_set _ _ _ rfl)) (mRw_set _ _ _ rfl)) (mRw_set _ _ _ rfl)) (mRw_mono (m_pbL_rw g 4 0 _) rfl)) (mRw_rf _)
theorem m_pBegin_rw (S : yS) (ns : Nat) : mRw lBeg S (m_pBegin S ns) := by
  unfold m_pBegin
  repeat' split
  all_goals first | exact mRw_rf S | exact m_begin_rw S _
/-- the place of a stage that next tells -/
theorem m_nextL_cO {S : yS} {ns : Nat} (h0 : 0 < ns) : ∀ (j i : Nat) (f g : Int32), cO f ns → cO (m_nextL S ns j i f g) ns
  | 0, _, f, _, hf => hf
  | j + 1, i, f, g, hf => by
    unfold m_nextL
    have hm : cO (nI ((m_lg S + i) % ns)) ns := Or.inr ⟨_, Nat.mod_lt _ h0, rfl⟩
    repeat' split
    all_goals first | exact m_nextL_cO h0 j (i + 1) _ _ hf | exact m_nextL_cO h0 j (i + 1) _ _ hm
theorem m_next_cO {S : yS} {ns : Nat} (h : cO (S 39 0) ns) : cO (m_next S ns) ns := by
  unfold m_next
  split
  · by_cases c : 0 < ns
    · exact m_nextL_cO c _ _ _ _ (Or.inl rfl)
    · obtain rfl : ns = 0 := by omega
      exact Or.inl rfl
  · exact h
theorem mB_since {S : yS} {np ns nd nr t : Nat} (hB : mB S np ns nd nr t) (n : Int32) : mB (m_pb1 S n) np ns nd nr t := by
  have k3 : S 0 0 = nI t ∧ t < 2 ^ 20 ∧ nd ≤ 12 := hB 3
  have e : ∀ k, k ≠ 34 → k ≠ 38 → k ≠ 35 → m_pb1 S n k = S k := fun k h1 h2 h3 => by
    unfold m_pb1
    rw [mset_ne _ _ h3, mset_ne _ _ h2, mset_ne _ _ h1]
  intro i
  have := hB i
  match i, this with
  | 0, q => simpa [mK, e] using q
  | 1, q => simpa [mK, e] using q
  | 2, q => simpa [mK, e] using q
  | 3, q => simpa [mK, e] using q
  | 4, q => simpa [mK, e] using q
  | 5, q => simpa [mK, e] using q
  | 6, q => simpa [mK, e] using q
  | 7, q => simpa [mK, e] using q
  | 8, q => simpa [mK, e] using q
  | 9, q => exact ⟨t, Nat.le_refl t, by unfold m_pb1; rw [mset_same]; exact k3.1⟩
  | (n + 10), q => trivial
section M8
variable {Z : (Nat → Prop) → State → Prop} {D : va_G} {dA : Nat → ClassId} {ad : Nat → Nat} {m0 : Nat} {S : yS} {np ns nd no nr t : Nat}
set_option maxHeartbeats 4000000 in
set_option maxRecDepth 100000 in
theorem mc_isAnotherWanted (hZ : yZok D dA Z)  (hB : mB S np ns nd nr t) (h : yH) (hR : yMR dA ad m0 (S) h) : yM Z D yX9_isAnotherWanted cX9_isAnotherWanted 3 (some .boolean) 1 0 0 [.ref m0] h (fun r h' => r = some (.int (bI (m_another S ns))) ∧ yMR dA ad m0 (S) h') := by
  refine yM_of hZ (by decide) rfl (Nat.le_of_ble_eq_true rfl) ?_
  intro p l e s m args below meth c A C hr hin
  show yW p l e (yR 1 0 0) s m args below meth c 3 D A 0 0 _ 0 [some (.ref m0), none, none] [] h
  have k1 : S 17 0 = nI ns ∧ ns ≤ 6 := hB 1
  have k0 : S 1 0 = nI np ∧ np ≤ 8 := hB 0
  refine yr_aload_n 1 C dX9_isAnotherWanted_0 rfl rfl rfl ?_
  refine ym_get 4 C hR dX9_isAnotherWanted_1 fl_X9_102 (by decide) rfl rfl ?_
  refine yr_if_lt 22 7 C dX9_isAnotherWanted_4 (by decide) rfl (fun c4 => ?_) (fun c4 => ?_)
  · refine yr_iconst 23 C (0) dX9_isAnotherWanted_22 rfl rfl ?_
    rw [show (0 : Int32) = bI (!decide (S 39 0 < 0) && !decide (S 39 0 = S 34 0)) from by simp [bI, c4]]
    refine yr_istore1 24 C dX9_isAnotherWanted_23 (by decide) rfl ?_
    refine yr_iconst 25 C (0) dX9_isAnotherWanted_24 rfl rfl ?_
    refine yr_istore2 26 C dX9_isAnotherWanted_25 (by decide) rfl ?_
    have loop26 : ∀ (j i : Nat) (a : Bool), i + j = ns → m_anL S j i a = m_another S ns → ∀ h : yH, yMR dA ad m0 (S) h → yW p l e (yR 1 0 0) s m args below meth c 3 D A 0 0 (yF D A (fun r h' => r = some (.int (bI (m_another S ns))) ∧ yMR dA ad m0 (S) h') below args s 0 0) 26 [some (.ref m0), some (.int (bI a)), some (.int (nI i))] [] h := by
      intro j
      induction j with
      | zero =>
        intro i a hij he h hR
        refine yr_iload_n 27 C dX9_isAnotherWanted_26 rfl rfl ?_
        refine yr_aload_n 28 C dX9_isAnotherWanted_27 rfl rfl rfl ?_
        refine ym_get 31 C hR dX9_isAnotherWanted_28 fl_X9_127 (by decide) rfl rfl ?_
        rw [k1.1]
        refine yr_icmp_ge 64 34 C dX9_isAnotherWanted_31 (by decide) rfl (fun c31 => ?_) (fun c31 => ?_)
        rotate_left
        · exact absurd (nI_le (by omega) (by omega)) c31
        refine yr_iload_n 65 C dX9_isAnotherWanted_64 rfl rfl ?_
        refine yr_zret C dX9_isAnotherWanted_65 hr ?_ (Nat.le_of_ble_eq_true rfl) (Nat.le_of_ble_eq_true rfl) ?_
        · exact bI_or _
        exact ⟨by rw [← he]; rfl, hR⟩
      | succ j ih =>
        intro i a hij he h hR
        refine yr_iload_n 27 C dX9_isAnotherWanted_26 rfl rfl ?_
        refine yr_aload_n 28 C dX9_isAnotherWanted_27 rfl rfl rfl ?_
        refine ym_get 31 C hR dX9_isAnotherWanted_28 fl_X9_127 (by decide) rfl rfl ?_
        rw [k1.1]
        refine yr_icmp_ge 64 34 C dX9_isAnotherWanted_31 (by decide) rfl (fun c31 => ?_) (fun c31 => ?_)
        · exact absurd c31 (nI_ge (by omega) (by omega))
        refine yr_iload_n 35 C dX9_isAnotherWanted_34 rfl rfl ?_
        refine yr_iload_n 36 C dX9_isAnotherWanted_35 rfl rfl ?_
        refine yr_aload_n 37 C dX9_isAnotherWanted_36 rfl rfl rfl ?_
        refine ym_get 40 C hR dX9_isAnotherWanted_37 fl_X9_95 (by decide) rfl rfl ?_
        refine yr_icmp_eq 55 43 C dX9_isAnotherWanted_40 (by decide) rfl (fun c40 => ?_) (fun c40 => ?_)
        · refine yr_iconst 56 C (0) dX9_isAnotherWanted_55 rfl rfl ?_
          refine yr_ior 57 C dX9_isAnotherWanted_56 rfl ?_
          rw [or_0 (a := a) (b := (!decide (nI i = S 34 0) && !decide (m_asked S i < 0))) (by simp [c40])]
          refine yr_istore1 58 C dX9_isAnotherWanted_57 (by decide) rfl ?_
          refine yr_iinc2 61 C (1) dX9_isAnotherWanted_58 rfl (by decide) rfl ?_
          rw [nI_1]
          refine yr_goto 26 C dX9_isAnotherWanted_61 (by decide) ?_
          exact ih (i + 1) _ (by omega) he h hR
        · refine yr_aload_n 44 C dX9_isAnotherWanted_43 rfl rfl rfl ?_
          refine yr_iload_n 45 C dX9_isAnotherWanted_44 rfl rfl ?_
          refine yr_V1v 48 C (mc_askedFirst hZ _ (by omega) hB _ hR) dX9_isAnotherWanted_45 mt_X9_askedFirst mv_X9_askedFirst ml_X9_195 hR.1 rfl (Nat.le_of_ble_eq_true rfl) (Nat.le_of_ble_eq_true rfl) (Nat.le_of_ble_eq_true rfl) (Nat.le_of_ble_eq_true rfl) (Nat.le_of_ble_eq_true rfl) rfl (fun h hR => ?_)
          refine yr_if_lt 55 51 C dX9_isAnotherWanted_48 (by decide) rfl (fun c48 => ?_) (fun c48 => ?_)
          · refine yr_iconst 56 C (0) dX9_isAnotherWanted_55 rfl rfl ?_
            refine yr_ior 57 C dX9_isAnotherWanted_56 rfl ?_
            rw [or_0 (a := a) (b := (!decide (nI i = S 34 0) && !decide (m_asked S i < 0))) (by simp [c40, c48])]
            refine yr_istore1 58 C dX9_isAnotherWanted_57 (by decide) rfl ?_
            refine yr_iinc2 61 C (1) dX9_isAnotherWanted_58 rfl (by decide) rfl ?_
            rw [nI_1]
            refine yr_goto 26 C dX9_isAnotherWanted_61 (by decide) ?_
            exact ih (i + 1) _ (by omega) he h hR
          · refine yr_iconst 52 C (1) dX9_isAnotherWanted_51 rfl rfl ?_
            refine yr_goto 56 C dX9_isAnotherWanted_52 (by decide) ?_
            refine yr_ior 57 C dX9_isAnotherWanted_56 rfl ?_
            rw [or_1 (a := a) (b := (!decide (nI i = S 34 0) && !decide (m_asked S i < 0))) (by simp [c40, c48])]
            refine yr_istore1 58 C dX9_isAnotherWanted_57 (by decide) rfl ?_
            refine yr_iinc2 61 C (1) dX9_isAnotherWanted_58 rfl (by decide) rfl ?_
            rw [nI_1]
            refine yr_goto 26 C dX9_isAnotherWanted_61 (by decide) ?_
            exact ih (i + 1) _ (by omega) he h hR
    exact loop26 ns 0 _ (by omega) rfl h hR
  · refine yr_aload_n 8 C dX9_isAnotherWanted_7 rfl rfl rfl ?_
    refine ym_get 11 C hR dX9_isAnotherWanted_8 fl_X9_102 (by decide) rfl rfl ?_
    refine yr_aload_n 12 C dX9_isAnotherWanted_11 rfl rfl rfl ?_
    refine ym_get 15 C hR dX9_isAnotherWanted_12 fl_X9_95 (by decide) rfl rfl ?_
    refine yr_icmp_eq 22 18 C dX9_isAnotherWanted_15 (by decide) rfl (fun c15 => ?_) (fun c15 => ?_)
    · refine yr_iconst 23 C (0) dX9_isAnotherWanted_22 rfl rfl ?_
      rw [show (0 : Int32) = bI (!decide (S 39 0 < 0) && !decide (S 39 0 = S 34 0)) from by simp [bI, c4, c15]]
      refine yr_istore1 24 C dX9_isAnotherWanted_23 (by decide) rfl ?_
      refine yr_iconst 25 C (0) dX9_isAnotherWanted_24 rfl rfl ?_
      refine yr_istore2 26 C dX9_isAnotherWanted_25 (by decide) rfl ?_
      have loop26 : ∀ (j i : Nat) (a : Bool), i + j = ns → m_anL S j i a = m_another S ns → ∀ h : yH, yMR dA ad m0 (S) h → yW p l e (yR 1 0 0) s m args below meth c 3 D A 0 0 (yF D A (fun r h' => r = some (.int (bI (m_another S ns))) ∧ yMR dA ad m0 (S) h') below args s 0 0) 26 [some (.ref m0), some (.int (bI a)), some (.int (nI i))] [] h := by
        intro j
        induction j with
        | zero =>
          intro i a hij he h hR
          refine yr_iload_n 27 C dX9_isAnotherWanted_26 rfl rfl ?_
          refine yr_aload_n 28 C dX9_isAnotherWanted_27 rfl rfl rfl ?_
          refine ym_get 31 C hR dX9_isAnotherWanted_28 fl_X9_127 (by decide) rfl rfl ?_
          rw [k1.1]
          refine yr_icmp_ge 64 34 C dX9_isAnotherWanted_31 (by decide) rfl (fun c31 => ?_) (fun c31 => ?_)
          rotate_left
          · exact absurd (nI_le (by omega) (by omega)) c31
          refine yr_iload_n 65 C dX9_isAnotherWanted_64 rfl rfl ?_
          refine yr_zret C dX9_isAnotherWanted_65 hr ?_ (Nat.le_of_ble_eq_true rfl) (Nat.le_of_ble_eq_true rfl) ?_
          · exact bI_or _
          exact ⟨by rw [← he]; rfl, hR⟩
        | succ j ih =>
          intro i a hij he h hR
          refine yr_iload_n 27 C dX9_isAnotherWanted_26 rfl rfl ?_
          refine yr_aload_n 28 C dX9_isAnotherWanted_27 rfl rfl rfl ?_
          refine ym_get 31 C hR dX9_isAnotherWanted_28 fl_X9_127 (by decide) rfl rfl ?_
          rw [k1.1]
          refine yr_icmp_ge 64 34 C dX9_isAnotherWanted_31 (by decide) rfl (fun c31 => ?_) (fun c31 => ?_)
          · exact absurd c31 (nI_ge (by omega) (by omega))
          refine yr_iload_n 35 C dX9_isAnotherWanted_34 rfl rfl ?_
          refine yr_iload_n 36 C dX9_isAnotherWanted_35 rfl rfl ?_
          refine yr_aload_n 37 C dX9_isAnotherWanted_36 rfl rfl rfl ?_
          refine ym_get 40 C hR dX9_isAnotherWanted_37 fl_X9_95 (by decide) rfl rfl ?_
          refine yr_icmp_eq 55 43 C dX9_isAnotherWanted_40 (by decide) rfl (fun c40 => ?_) (fun c40 => ?_)
          · refine yr_iconst 56 C (0) dX9_isAnotherWanted_55 rfl rfl ?_
            refine yr_ior 57 C dX9_isAnotherWanted_56 rfl ?_
            rw [or_0 (a := a) (b := (!decide (nI i = S 34 0) && !decide (m_asked S i < 0))) (by simp [c40])]
            refine yr_istore1 58 C dX9_isAnotherWanted_57 (by decide) rfl ?_
            refine yr_iinc2 61 C (1) dX9_isAnotherWanted_58 rfl (by decide) rfl ?_
            rw [nI_1]
            refine yr_goto 26 C dX9_isAnotherWanted_61 (by decide) ?_
            exact ih (i + 1) _ (by omega) he h hR
          · refine yr_aload_n 44 C dX9_isAnotherWanted_43 rfl rfl rfl ?_
            refine yr_iload_n 45 C dX9_isAnotherWanted_44 rfl rfl ?_
            refine yr_V1v 48 C (mc_askedFirst hZ _ (by omega) hB _ hR) dX9_isAnotherWanted_45 mt_X9_askedFirst mv_X9_askedFirst ml_X9_195 hR.1 rfl (Nat.le_of_ble_eq_true rfl) (Nat.le_of_ble_eq_true rfl) (Nat.le_of_ble_eq_true rfl) (Nat.le_of_ble_eq_true rfl) (Nat.le_of_ble_eq_true rfl) rfl (fun h hR => ?_)
            refine yr_if_lt 55 51 C dX9_isAnotherWanted_48 (by decide) rfl (fun c48 => ?_) (fun c48 => ?_)
            · refine yr_iconst 56 C (0) dX9_isAnotherWanted_55 rfl rfl ?_
              refine yr_ior 57 C dX9_isAnotherWanted_56 rfl ?_
              rw [or_0 (a := a) (b := (!decide (nI i = S 34 0) && !decide (m_asked S i < 0))) (by simp [c40, c48])]
              refine yr_istore1 58 C dX9_isAnotherWanted_57 (by decide) rfl ?_
              refine yr_iinc2 61 C (1) dX9_isAnotherWanted_58 rfl (by decide) rfl ?_
              rw [nI_1]
              refine yr_goto 26 C dX9_isAnotherWanted_61 (by decide) ?_
              exact ih (i + 1) _ (by omega) he h hR
            · refine yr_iconst 52 C (1) dX9_isAnotherWanted_51 rfl rfl ?_
              refine yr_goto 56 C dX9_isAnotherWanted_52 (by decide) ?_
              refine yr_ior 57 C dX9_isAnotherWanted_56 rfl ?_
              rw [or_1 (a := a) (b := (!decide (nI i = S 34 0) && !decide (m_asked S i < 0))) (by simp [c40, c48])]
              refine yr_istore1 58 C dX9_isAnotherWanted_57 (by decide) rfl ?_
              refine yr_iinc2 61 C (1) dX9_isAnotherWanted_58 rfl (by decide) rfl ?_
              rw [nI_1]
              refine yr_goto 26 C dX9_isAnotherWanted_61 (by decide) ?_
              exact ih (i + 1) _ (by omega) he h hR
      exact loop26 ns 0 _ (by omega) rfl h hR
    · refine yr_iconst 19 C (1) dX9_isAnotherWanted_18 rfl rfl ?_
      refine yr_goto 23 C dX9_isAnotherWanted_19 (by decide) ?_
      rw [show (1 : Int32) = bI (!decide (S 39 0 < 0) && !decide (S 39 0 = S 34 0)) from by simp [bI, c4, c15]]
      refine yr_istore1 24 C dX9_isAnotherWanted_23 (by decide) rfl ?_
      refine yr_iconst 25 C (0) dX9_isAnotherWanted_24 rfl rfl ?_
      refine yr_istore2 26 C dX9_isAnotherWanted_25 (by decide) rfl ?_
      have loop26 : ∀ (j i : Nat) (a : Bool), i + j = ns → m_anL S j i a = m_another S ns → ∀ h : yH, yMR dA ad m0 (S) h → yW p l e (yR 1 0 0) s m args below meth c 3 D A 0 0 (yF D A (fun r h' => r = some (.int (bI (m_another S ns))) ∧ yMR dA ad m0 (S) h') below args s 0 0) 26 [some (.ref m0), some (.int (bI a)), some (.int (nI i))] [] h := by
        intro j
        induction j with
        | zero =>
          intro i a hij he h hR
          refine yr_iload_n 27 C dX9_isAnotherWanted_26 rfl rfl ?_
          refine yr_aload_n 28 C dX9_isAnotherWanted_27 rfl rfl rfl ?_
          refine ym_get 31 C hR dX9_isAnotherWanted_28 fl_X9_127 (by decide) rfl rfl ?_
          rw [k1.1]
          refine yr_icmp_ge 64 34 C dX9_isAnotherWanted_31 (by decide) rfl (fun c31 => ?_) (fun c31 => ?_)
          rotate_left
          · exact absurd (nI_le (by omega) (by omega)) c31
          refine yr_iload_n 65 C dX9_isAnotherWanted_64 rfl rfl ?_
          refine yr_zret C dX9_isAnotherWanted_65 hr ?_ (Nat.le_of_ble_eq_true rfl) (Nat.le_of_ble_eq_true rfl) ?_
          · exact bI_or _
          exact ⟨by rw [← he]; rfl, hR⟩
        | succ j ih =>
          intro i a hij he h hR
          refine yr_iload_n 27 C dX9_isAnotherWanted_26 rfl rfl ?_
          refine yr_aload_n 28 C dX9_isAnotherWanted_27 rfl rfl rfl ?_
          refine ym_get 31 C hR dX9_isAnotherWanted_28 fl_X9_127 (by decide) rfl rfl ?_
          rw [k1.1]
          refine yr_icmp_ge 64 34 C dX9_isAnotherWanted_31 (by decide) rfl (fun c31 => ?_) (fun c31 => ?_)
          · exact absurd c31 (nI_ge (by omega) (by omega))
          refine yr_iload_n 35 C dX9_isAnotherWanted_34 rfl rfl ?_
          refine yr_iload_n 36 C dX9_isAnotherWanted_35 rfl rfl ?_
          refine yr_aload_n 37 C dX9_isAnotherWanted_36 rfl rfl rfl ?_
          refine ym_get 40 C hR dX9_isAnotherWanted_37 fl_X9_95 (by decide) rfl rfl ?_
          refine yr_icmp_eq 55 43 C dX9_isAnotherWanted_40 (by decide) rfl (fun c40 => ?_) (fun c40 => ?_)
          · refine yr_iconst 56 C (0) dX9_isAnotherWanted_55 rfl rfl ?_
            refine yr_ior 57 C dX9_isAnotherWanted_56 rfl ?_
            rw [or_0 (a := a) (b := (!decide (nI i = S 34 0) && !decide (m_asked S i < 0))) (by simp [c40])]
            refine yr_istore1 58 C dX9_isAnotherWanted_57 (by decide) rfl ?_
            refine yr_iinc2 61 C (1) dX9_isAnotherWanted_58 rfl (by decide) rfl ?_
            rw [nI_1]
            refine yr_goto 26 C dX9_isAnotherWanted_61 (by decide) ?_
            exact ih (i + 1) _ (by omega) he h hR
          · refine yr_aload_n 44 C dX9_isAnotherWanted_43 rfl rfl rfl ?_
            refine yr_iload_n 45 C dX9_isAnotherWanted_44 rfl rfl ?_
            refine yr_V1v 48 C (mc_askedFirst hZ _ (by omega) hB _ hR) dX9_isAnotherWanted_45 mt_X9_askedFirst mv_X9_askedFirst ml_X9_195 hR.1 rfl (Nat.le_of_ble_eq_true rfl) (Nat.le_of_ble_eq_true rfl) (Nat.le_of_ble_eq_true rfl) (Nat.le_of_ble_eq_true rfl) (Nat.le_of_ble_eq_true rfl) rfl (fun h hR => ?_)
            refine yr_if_lt 55 51 C dX9_isAnotherWanted_48 (by decide) rfl (fun c48 => ?_) (fun c48 => ?_)
            · refine yr_iconst 56 C (0) dX9_isAnotherWanted_55 rfl rfl ?_
              refine yr_ior 57 C dX9_isAnotherWanted_56 rfl ?_
              rw [or_0 (a := a) (b := (!decide (nI i = S 34 0) && !decide (m_asked S i < 0))) (by simp [c40, c48])]
              refine yr_istore1 58 C dX9_isAnotherWanted_57 (by decide) rfl ?_
              refine yr_iinc2 61 C (1) dX9_isAnotherWanted_58 rfl (by decide) rfl ?_
              rw [nI_1]
              refine yr_goto 26 C dX9_isAnotherWanted_61 (by decide) ?_
              exact ih (i + 1) _ (by omega) he h hR
            · refine yr_iconst 52 C (1) dX9_isAnotherWanted_51 rfl rfl ?_
              refine yr_goto 56 C dX9_isAnotherWanted_52 (by decide) ?_
              refine yr_ior 57 C dX9_isAnotherWanted_56 rfl ?_
              rw [or_1 (a := a) (b := (!decide (nI i = S 34 0) && !decide (m_asked S i < 0))) (by simp [c40, c48])]
              refine yr_istore1 58 C dX9_isAnotherWanted_57 (by decide) rfl ?_
              refine yr_iinc2 61 C (1) dX9_isAnotherWanted_58 rfl (by decide) rfl ?_
              rw [nI_1]
              refine yr_goto 26 C dX9_isAnotherWanted_61 (by decide) ?_
              exact ih (i + 1) _ (by omega) he h hR
      exact loop26 ns 0 _ (by omega) rfl h hR
set_option maxHeartbeats 4000000 in
set_option maxRecDepth 100000 in
theorem mc_perhapsEnd (hZ : yZok D dA Z)  (hB : mB S np ns nd nr t) (hgr : cO (S 34 0) ns) (h : yH) (hR : yMR dA ad m0 (S) h) : yM Z D yX9_perhapsEnd cX9_perhapsEnd 4 none 3 0 0 [.ref m0] h (fun r h' => r = none ∧ yMR dA ad m0 (m_pEnd S np ns) h') := by
  refine yM_of hZ (by decide) rfl (Nat.le_of_ble_eq_true rfl) ?_
  intro p l e s m args below meth c A C hr hin
  show yW p l e (yR 3 0 0) s m args below meth c 4 D A 0 0 _ 0 [some (.ref m0), none, none, none] [] h
  have k1 : S 17 0 = nI ns ∧ ns ≤ 6 := hB 1
  have k0 : S 1 0 = nI np ∧ np ≤ 8 := hB 0
  refine yr_aload_n 1 C dX9_perhapsEnd_0 rfl rfl rfl ?_
  refine ym_get 4 C hR dX9_perhapsEnd_1 fl_X9_95 (by decide) rfl rfl ?_
  refine yr_if_lt 30 7 C dX9_perhapsEnd_4 (by decide) rfl (fun c4 => ?_) (fun c4 => ?_)
  · refine yr_vret C dX9_perhapsEnd_30 hr (Nat.le_of_ble_eq_true rfl) (Nat.le_of_ble_eq_true rfl) ?_
    refine ⟨rfl, ?_⟩
    simpa [m_pEnd, c4] using hR
  · refine yr_aload_n 8 C dX9_perhapsEnd_7 rfl rfl rfl ?_
    refine yr_V0v 11 C (mc_isAnotherWanted hZ hB _ hR) dX9_perhapsEnd_8 mt_X9_isAnotherWanted mv_X9_isAnotherWanted ml_X9_219 hR.1 rfl (Nat.le_of_ble_eq_true rfl) (Nat.le_of_ble_eq_true rfl) (Nat.le_of_ble_eq_true rfl) (Nat.le_of_ble_eq_true rfl) (Nat.le_of_ble_eq_true rfl) rfl (fun h hR => ?_)
    refine yb_eq 30 14 C dX9_perhapsEnd_11 (by decide) rfl (fun c11 => ?_) (fun c11 => ?_)
    · refine yr_vret C dX9_perhapsEnd_30 hr (Nat.le_of_ble_eq_true rfl) (Nat.le_of_ble_eq_true rfl) ?_
      refine ⟨rfl, ?_⟩
      simpa [m_pEnd, c4, c11] using hR
    · refine yr_aload_n 15 C dX9_perhapsEnd_14 rfl rfl rfl ?_
      refine ym_get 18 C hR dX9_perhapsEnd_15 fl_X9_133 (by decide) rfl rfl ?_
      refine yr_aload_n 19 C dX9_perhapsEnd_18 rfl rfl rfl ?_
      refine ym_get 22 C hR dX9_perhapsEnd_19 fl_X9_189 (by decide) rfl rfl ?_
      refine yr_isub 23 C dX9_perhapsEnd_22 rfl ?_
      refine yr_aload_n 24 C dX9_perhapsEnd_23 rfl rfl rfl ?_
      refine ym_get 27 C hR dX9_perhapsEnd_24 fl_X9_223 (by decide) rfl rfl ?_
      refine yr_icmp_ge 31 30 C dX9_perhapsEnd_27 (by decide) rfl (fun c27 => ?_) (fun c27 => ?_)
      · obtain ⟨g, hg, eg⟩ := cO_lt (by omega) hgr c4
        have e5 : ix (S 34 0) = g := by rw [eg]; exact ix_nI (by omega)
        refine yr_iconst 32 C (0) dX9_perhapsEnd_31 rfl rfl ?_
        refine yr_istore1 33 C dX9_perhapsEnd_32 (by decide) rfl ?_
        refine yr_iconst 34 C (0) dX9_perhapsEnd_33 rfl rfl ?_
        refine yr_istore2 35 C dX9_perhapsEnd_34 (by decide) rfl ?_
        have loop35 : ∀ (j i : Nat) (a : Bool), i + j = 4 → m_hdL S g j i a = m_hdL S g 4 0 false → ∀ h : yH, yMR dA ad m0 (S) h → yW p l e (yR 3 0 0) s m args below meth c 4 D A 0 0 (yF D A (fun r h' => r = none ∧ yMR dA ad m0 (m_pEnd S np ns) h') below args s 0 0) 35 [some (.ref m0), some (.int (bI a)), some (.int (nI i)), none] [] h := by
          intro j
          induction j with
          | zero =>
            intro i a hij he h hR
            obtain rfl : i = 4 := by omega
            have he2 : a = m_hdL S g 4 0 false := he
            refine yr_iload_n 36 C dX9_perhapsEnd_35 rfl rfl ?_
            refine yr_iconst 37 C (4) dX9_perhapsEnd_36 rfl rfl ?_
            refine yr_icmp_ge 81 40 C dX9_perhapsEnd_37 (by decide) rfl (fun c37 => ?_) (fun c37 => ?_)
            rotate_left
            · exact absurd (by decide) c37
            refine yr_aload_n 82 C dX9_perhapsEnd_81 rfl rfl rfl ?_
            refine ym_get 85 C hR dX9_perhapsEnd_82 fl_X9_133 (by decide) rfl rfl ?_
            refine yr_aload_n 86 C dX9_perhapsEnd_85 rfl rfl rfl ?_
            refine ym_get 89 C hR dX9_perhapsEnd_86 fl_X9_189 (by decide) rfl rfl ?_
            refine yr_isub 90 C dX9_perhapsEnd_89 rfl ?_
            refine yr_aload_n 91 C dX9_perhapsEnd_90 rfl rfl rfl ?_
            refine ym_get 94 C hR dX9_perhapsEnd_91 fl_X9_226 (by decide) rfl rfl ?_
            refine yr_icmp_ge 109 97 C dX9_perhapsEnd_94 (by decide) rfl (fun c94 => ?_) (fun c94 => ?_)
            · refine yr_iconst 110 C (0) dX9_perhapsEnd_109 rfl rfl ?_
              refine yr_istore2 111 C dX9_perhapsEnd_110 (by decide) rfl ?_
              have loop111 : ∀ (j i : Nat) (X : yS), i + j = 4 → mB X np ns nd nr t → X 34 0 = nI g → m_peL np g j i X = m_peL np g 4 0 S → ∀ h : yH, yMR dA ad m0 (X) h → yW p l e (yR 3 0 0) s m args below meth c 4 D A 0 0 (yF D A (fun r h' => r = none ∧ yMR dA ad m0 (m_pEnd S np ns) h') below args s 0 0) 111 [some (.ref m0), some (.int (bI a)), some (.int (nI i)), none] [] h := by
                intro j
                induction j with
                | zero =>
                  intro i X hij hX hg2 hf h hR
                  obtain rfl : i = 4 := by omega
                  refine yr_iload_n 112 C dX9_perhapsEnd_111 rfl rfl ?_
                  refine yr_iconst 113 C (4) dX9_perhapsEnd_112 rfl rfl ?_
                  refine yr_icmp_ge 175 116 C dX9_perhapsEnd_113 (by decide) rfl (fun c113 => ?_) (fun c113 => ?_)
                  rotate_left
                  · exact absurd (by decide) c113
                  refine yr_aload_n 176 C dX9_perhapsEnd_175 rfl rfl rfl ?_
                  refine yr_bipush 178 C (-5) dX9_perhapsEnd_176 rfl rfl ?_
                  refine ym_put 181 C hR dX9_perhapsEnd_178 fp_X9_95 (by decide) rfl rfl (fun h hR => ?_)
                  refine yr_vret C dX9_perhapsEnd_181 hr (Nat.le_of_ble_eq_true rfl) (Nat.le_of_ble_eq_true rfl) ?_
                  have e6 : m_ends S g = true := by simp [m_ends, ← he2, c4, c11, c27, c94]
                  refine ⟨rfl, ?_⟩
                  have hf2 : X = m_peL np g 4 0 S := hf
                  rw [hf2] at hR
                  simpa [m_pEnd, e5, e6, c4, c11, c27, c94] using hR
                | succ j ih =>
                  intro i X hij hX hg2 hf h hR
                  have q7 : cO (X 18 (4 * g + i)) np := (show ∀ s, s < ns → ∀ k, k < 4 → cO (X 18 (4 * s + k)) np from hX 7) g hg i (by omega)
                  refine yr_iload_n 112 C dX9_perhapsEnd_111 rfl rfl ?_
                  refine yr_iconst 113 C (4) dX9_perhapsEnd_112 rfl rfl ?_
                  refine yr_icmp_ge 175 116 C dX9_perhapsEnd_113 (by decide) rfl (fun c113 => ?_) (fun c113 => ?_)
                  · exact absurd c113 (nI_ge (b := 4) (by omega) (by decide))
                  refine yr_aload_n 117 C dX9_perhapsEnd_116 rfl rfl rfl ?_
                  refine ym_getA 120 C hR dX9_perhapsEnd_117 fl_X9_56 (by decide) rfl rfl ?_
                  refine yr_iconst 121 C (4) dX9_perhapsEnd_120 rfl rfl ?_
                  refine yr_aload_n 122 C dX9_perhapsEnd_121 rfl rfl rfl ?_
                  refine ym_get 125 C hR dX9_perhapsEnd_122 fl_X9_95 (by decide) rfl rfl ?_
                  rw [hg2]
                  refine yr_imul 126 C dX9_perhapsEnd_125 rfl ?_
                  refine yr_iload_n 127 C dX9_perhapsEnd_126 rfl rfl ?_
                  refine yr_iadd 128 C dX9_perhapsEnd_127 rfl ?_
                  rw [show (4 : Int32) * nI g + nI i = nI (4 * g + i) from ixm]
                  refine ym_aldN 129 C hR dX9_perhapsEnd_128 (by decide) rfl rfl ?_ rfl ?_
                  · simp only [mL]; omega
                  refine yr_istore3 130 C dX9_perhapsEnd_129 (by decide) rfl ?_
                  refine yr_iload_n 131 C dX9_perhapsEnd_130 rfl rfl ?_
                  refine yr_if_lt 169 134 C dX9_perhapsEnd_131 (by decide) rfl (fun c131 => ?_) (fun c131 => ?_)
                  · refine yr_iinc2 172 C (1) dX9_perhapsEnd_169 rfl (by decide) rfl ?_
                    rw [nI_1]
                    refine yr_goto 111 C dX9_perhapsEnd_172 (by decide) ?_
                    refine yr_forget3 ?_
                    exact ih (i + 1) _ (by omega) (mB_fr hX (mFr_rw (m_peS_rw np g X i) rfl)) (by rw [m_peS_rw np g X i 34 (by decide)]; exact hg2) hf h (by first | (simpa [m_peS, c131] using hR) | (simpa [m_peS, c131, e4, c142] using hR))
                  · obtain ⟨z, hz, ez⟩ := cO_lt (by omega) q7 c131
                    have e4 : ix (X 18 (4 * g + i)) = z := by rw [ez]; exact ix_nI (by omega)
                    rw [ez]
                    refine yr_aload_n 135 C dX9_perhapsEnd_134 rfl rfl rfl ?_
                    refine yr_iload_n 136 C dX9_perhapsEnd_135 rfl rfl ?_
                    refine yr_aload_n 137 C dX9_perhapsEnd_136 rfl rfl rfl ?_
                    refine ym_getA 140 C hR dX9_perhapsEnd_137 fl_X9_43 (by decide) rfl rfl ?_
                    refine yr_iload_n 141 C dX9_perhapsEnd_140 rfl rfl ?_
                    refine ym_aldN 142 C hR dX9_perhapsEnd_141 (by decide) rfl rfl ?_ rfl ?_
                    · simp only [mL]; omega
                    refine yr_if_le 149 145 C dX9_perhapsEnd_142 (by decide) rfl (fun c142 => ?_) (fun c142 => ?_)
                    · refine yr_iconst 150 C (0) dX9_perhapsEnd_149 rfl rfl ?_
                      refine yr_V2u 153 C (mc_change hZ _ hz _ hX _ hR) dX9_perhapsEnd_150 mt_X9_change mv_X9_change ml_X9_213 hR.1 rfl (Nat.le_of_ble_eq_true rfl) (Nat.le_of_ble_eq_true rfl) (Nat.le_of_ble_eq_true rfl) (Nat.le_of_ble_eq_true rfl) (Nat.le_of_ble_eq_true rfl) rfl (fun h hR => ?_)
                      refine yr_aload_n 154 C dX9_perhapsEnd_153 rfl rfl rfl ?_
                      refine yr_iload_n 155 C dX9_perhapsEnd_154 rfl rfl ?_
                      refine yr_aload_n 156 C dX9_perhapsEnd_155 rfl rfl rfl ?_
                      refine ym_get 159 C hR dX9_perhapsEnd_156 fl_X9_133 (by decide) rfl rfl ?_
                      refine yr_aload_n 160 C dX9_perhapsEnd_159 rfl rfl rfl ?_
                      refine ym_getA 163 C hR dX9_perhapsEnd_160 fl_X9_43 (by decide) rfl rfl ?_
                      refine yr_iload_n 164 C dX9_perhapsEnd_163 rfl rfl ?_
                      refine ym_aldN 165 C hR dX9_perhapsEnd_164 (by decide) rfl rfl ?_ rfl ?_
                      · simp only [mL]; omega
                      refine yr_iadd 166 C dX9_perhapsEnd_165 rfl ?_
                      refine yr_V2u 169 C (mc_endsIn hZ _ hz _ (mB_fr hX (m_change_fr X z _)) _ hR) dX9_perhapsEnd_166 mt_X9_endsIn mv_X9_endsIn ml_X9_216 hR.1 rfl (Nat.le_of_ble_eq_true rfl) (Nat.le_of_ble_eq_true rfl) (Nat.le_of_ble_eq_true rfl) (Nat.le_of_ble_eq_true rfl) (Nat.le_of_ble_eq_true rfl) rfl (fun h hR => ?_)
                      refine yr_iinc2 172 C (1) dX9_perhapsEnd_169 rfl (by decide) rfl ?_
                      rw [nI_1]
                      refine yr_goto 111 C dX9_perhapsEnd_172 (by decide) ?_
                      refine yr_forget3 ?_
                      exact ih (i + 1) _ (by omega) (mB_fr hX (mFr_rw (m_peS_rw np g X i) rfl)) (by rw [m_peS_rw np g X i 34 (by decide)]; exact hg2) hf h (by first | (simpa [m_peS, c131] using hR) | (simpa [m_peS, c131, e4, c142] using hR))
                    · refine yr_iconst 146 C (2) dX9_perhapsEnd_145 rfl rfl ?_
                      refine yr_goto 150 C dX9_perhapsEnd_146 (by decide) ?_
                      refine yr_V2u 153 C (mc_change hZ _ hz _ hX _ hR) dX9_perhapsEnd_150 mt_X9_change mv_X9_change ml_X9_213 hR.1 rfl (Nat.le_of_ble_eq_true rfl) (Nat.le_of_ble_eq_true rfl) (Nat.le_of_ble_eq_true rfl) (Nat.le_of_ble_eq_true rfl) (Nat.le_of_ble_eq_true rfl) rfl (fun h hR => ?_)
                      refine yr_aload_n 154 C dX9_perhapsEnd_153 rfl rfl rfl ?_
                      refine yr_iload_n 155 C dX9_perhapsEnd_154 rfl rfl ?_
                      refine yr_aload_n 156 C dX9_perhapsEnd_155 rfl rfl rfl ?_
                      refine ym_get 159 C hR dX9_perhapsEnd_156 fl_X9_133 (by decide) rfl rfl ?_
                      refine yr_aload_n 160 C dX9_perhapsEnd_159 rfl rfl rfl ?_
                      refine ym_getA 163 C hR dX9_perhapsEnd_160 fl_X9_43 (by decide) rfl rfl ?_
                      refine yr_iload_n 164 C dX9_perhapsEnd_163 rfl rfl ?_
                      refine ym_aldN 165 C hR dX9_perhapsEnd_164 (by decide) rfl rfl ?_ rfl ?_
                      · simp only [mL]; omega
                      refine yr_iadd 166 C dX9_perhapsEnd_165 rfl ?_
                      refine yr_V2u 169 C (mc_endsIn hZ _ hz _ (mB_fr hX (m_change_fr X z _)) _ hR) dX9_perhapsEnd_166 mt_X9_endsIn mv_X9_endsIn ml_X9_216 hR.1 rfl (Nat.le_of_ble_eq_true rfl) (Nat.le_of_ble_eq_true rfl) (Nat.le_of_ble_eq_true rfl) (Nat.le_of_ble_eq_true rfl) (Nat.le_of_ble_eq_true rfl) rfl (fun h hR => ?_)
                      refine yr_iinc2 172 C (1) dX9_perhapsEnd_169 rfl (by decide) rfl ?_
                      rw [nI_1]
                      refine yr_goto 111 C dX9_perhapsEnd_172 (by decide) ?_
                      refine yr_forget3 ?_
                      exact ih (i + 1) _ (by omega) (mB_fr hX (mFr_rw (m_peS_rw np g X i) rfl)) (by rw [m_peS_rw np g X i 34 (by decide)]; exact hg2) hf h (by first | (simpa [m_peS, c131] using hR) | (simpa [m_peS, c131, e4, c142] using hR))
              exact loop111 4 0 S (by omega) hB eg rfl h hR
            · refine yr_aload_n 98 C dX9_perhapsEnd_97 rfl rfl rfl ?_
              refine ym_get 101 C hR dX9_perhapsEnd_98 fl_X9_102 (by decide) rfl rfl ?_
              refine yr_if_ge 109 104 C dX9_perhapsEnd_101 (by decide) rfl (fun c101 => ?_) (fun c101 => ?_)
              · refine yr_iconst 110 C (0) dX9_perhapsEnd_109 rfl rfl ?_
                refine yr_istore2 111 C dX9_perhapsEnd_110 (by decide) rfl ?_
                have loop111 : ∀ (j i : Nat) (X : yS), i + j = 4 → mB X np ns nd nr t → X 34 0 = nI g → m_peL np g j i X = m_peL np g 4 0 S → ∀ h : yH, yMR dA ad m0 (X) h → yW p l e (yR 3 0 0) s m args below meth c 4 D A 0 0 (yF D A (fun r h' => r = none ∧ yMR dA ad m0 (m_pEnd S np ns) h') below args s 0 0) 111 [some (.ref m0), some (.int (bI a)), some (.int (nI i)), none] [] h := by
                  intro j
                  induction j with
                  | zero =>
                    intro i X hij hX hg2 hf h hR
                    obtain rfl : i = 4 := by omega
                    refine yr_iload_n 112 C dX9_perhapsEnd_111 rfl rfl ?_
                    refine yr_iconst 113 C (4) dX9_perhapsEnd_112 rfl rfl ?_
                    refine yr_icmp_ge 175 116 C dX9_perhapsEnd_113 (by decide) rfl (fun c113 => ?_) (fun c113 => ?_)
                    rotate_left
                    · exact absurd (by decide) c113
                    refine yr_aload_n 176 C dX9_perhapsEnd_175 rfl rfl rfl ?_
                    refine yr_bipush 178 C (-5) dX9_perhapsEnd_176 rfl rfl ?_
                    refine ym_put 181 C hR dX9_perhapsEnd_178 fp_X9_95 (by decide) rfl rfl (fun h hR => ?_)
                    refine yr_vret C dX9_perhapsEnd_181 hr (Nat.le_of_ble_eq_true rfl) (Nat.le_of_ble_eq_true rfl) ?_
                    have e6 : m_ends S g = true := by simp [m_ends, ← he2, c4, c11, c27, c94, c101]
                    refine ⟨rfl, ?_⟩
                    have hf2 : X = m_peL np g 4 0 S := hf
                    rw [hf2] at hR
                    simpa [m_pEnd, e5, e6, c4, c11, c27, c94, c101] using hR
                  | succ j ih =>
                    intro i X hij hX hg2 hf h hR
                    have q7 : cO (X 18 (4 * g + i)) np := (show ∀ s, s < ns → ∀ k, k < 4 → cO (X 18 (4 * s + k)) np from hX 7) g hg i (by omega)
                    refine yr_iload_n 112 C dX9_perhapsEnd_111 rfl rfl ?_
                    refine yr_iconst 113 C (4) dX9_perhapsEnd_112 rfl rfl ?_
                    refine yr_icmp_ge 175 116 C dX9_perhapsEnd_113 (by decide) rfl (fun c113 => ?_) (fun c113 => ?_)
                    · exact absurd c113 (nI_ge (b := 4) (by omega) (by decide))
                    refine yr_aload_n 117 C dX9_perhapsEnd_116 rfl rfl rfl ?_
                    refine ym_getA 120 C hR dX9_perhapsEnd_117 fl_X9_56 (by decide) rfl rfl ?_
                    refine yr_iconst 121 C (4) dX9_perhapsEnd_120 rfl rfl ?_
                    refine yr_aload_n 122 C dX9_perhapsEnd_121 rfl rfl rfl ?_
                    refine ym_get 125 C hR dX9_perhapsEnd_122 fl_X9_95 (by decide) rfl rfl ?_
                    rw [hg2]
                    refine yr_imul 126 C dX9_perhapsEnd_125 rfl ?_
                    refine yr_iload_n 127 C dX9_perhapsEnd_126 rfl rfl ?_
                    refine yr_iadd 128 C dX9_perhapsEnd_127 rfl ?_
                    rw [show (4 : Int32) * nI g + nI i = nI (4 * g + i) from ixm]
                    refine ym_aldN 129 C hR dX9_perhapsEnd_128 (by decide) rfl rfl ?_ rfl ?_
                    · simp only [mL]; omega
                    refine yr_istore3 130 C dX9_perhapsEnd_129 (by decide) rfl ?_
                    refine yr_iload_n 131 C dX9_perhapsEnd_130 rfl rfl ?_
                    refine yr_if_lt 169 134 C dX9_perhapsEnd_131 (by decide) rfl (fun c131 => ?_) (fun c131 => ?_)
                    · refine yr_iinc2 172 C (1) dX9_perhapsEnd_169 rfl (by decide) rfl ?_
                      rw [nI_1]
                      refine yr_goto 111 C dX9_perhapsEnd_172 (by decide) ?_
                      refine yr_forget3 ?_
                      exact ih (i + 1) _ (by omega) (mB_fr hX (mFr_rw (m_peS_rw np g X i) rfl)) (by rw [m_peS_rw np g X i 34 (by decide)]; exact hg2) hf h (by first | (simpa [m_peS, c131] using hR) | (simpa [m_peS, c131, e4, c142] using hR))
                    · obtain ⟨z, hz, ez⟩ := cO_lt (by omega) q7 c131
                      have e4 : ix (X 18 (4 * g + i)) = z := by rw [ez]; exact ix_nI (by omega)
                      rw [ez]
                      refine yr_aload_n 135 C dX9_perhapsEnd_134 rfl rfl rfl ?_
                      refine yr_iload_n 136 C dX9_perhapsEnd_135 rfl rfl ?_
                      refine yr_aload_n 137 C dX9_perhapsEnd_136 rfl rfl rfl ?_
                      refine ym_getA 140 C hR dX9_perhapsEnd_137 fl_X9_43 (by decide) rfl rfl ?_
                      refine yr_iload_n 141 C dX9_perhapsEnd_140 rfl rfl ?_
                      refine ym_aldN 142 C hR dX9_perhapsEnd_141 (by decide) rfl rfl ?_ rfl ?_
                      · simp only [mL]; omega
                      refine yr_if_le 149 145 C dX9_perhapsEnd_142 (by decide) rfl (fun c142 => ?_) (fun c142 => ?_)
                      · refine yr_iconst 150 C (0) dX9_perhapsEnd_149 rfl rfl ?_
                        refine yr_V2u 153 C (mc_change hZ _ hz _ hX _ hR) dX9_perhapsEnd_150 mt_X9_change mv_X9_change ml_X9_213 hR.1 rfl (Nat.le_of_ble_eq_true rfl) (Nat.le_of_ble_eq_true rfl) (Nat.le_of_ble_eq_true rfl) (Nat.le_of_ble_eq_true rfl) (Nat.le_of_ble_eq_true rfl) rfl (fun h hR => ?_)
                        refine yr_aload_n 154 C dX9_perhapsEnd_153 rfl rfl rfl ?_
                        refine yr_iload_n 155 C dX9_perhapsEnd_154 rfl rfl ?_
                        refine yr_aload_n 156 C dX9_perhapsEnd_155 rfl rfl rfl ?_
                        refine ym_get 159 C hR dX9_perhapsEnd_156 fl_X9_133 (by decide) rfl rfl ?_
                        refine yr_aload_n 160 C dX9_perhapsEnd_159 rfl rfl rfl ?_
                        refine ym_getA 163 C hR dX9_perhapsEnd_160 fl_X9_43 (by decide) rfl rfl ?_
                        refine yr_iload_n 164 C dX9_perhapsEnd_163 rfl rfl ?_
                        refine ym_aldN 165 C hR dX9_perhapsEnd_164 (by decide) rfl rfl ?_ rfl ?_
                        · simp only [mL]; omega
                        refine yr_iadd 166 C dX9_perhapsEnd_165 rfl ?_
                        refine yr_V2u 169 C (mc_endsIn hZ _ hz _ (mB_fr hX (m_change_fr X z _)) _ hR) dX9_perhapsEnd_166 mt_X9_endsIn mv_X9_endsIn ml_X9_216 hR.1 rfl (Nat.le_of_ble_eq_true rfl) (Nat.le_of_ble_eq_true rfl) (Nat.le_of_ble_eq_true rfl) (Nat.le_of_ble_eq_true rfl) (Nat.le_of_ble_eq_true rfl) rfl (fun h hR => ?_)
                        refine yr_iinc2 172 C (1) dX9_perhapsEnd_169 rfl (by decide) rfl ?_
                        rw [nI_1]
                        refine yr_goto 111 C dX9_perhapsEnd_172 (by decide) ?_
                        refine yr_forget3 ?_
                        exact ih (i + 1) _ (by omega) (mB_fr hX (mFr_rw (m_peS_rw np g X i) rfl)) (by rw [m_peS_rw np g X i 34 (by decide)]; exact hg2) hf h (by first | (simpa [m_peS, c131] using hR) | (simpa [m_peS, c131, e4, c142] using hR))
                      · refine yr_iconst 146 C (2) dX9_perhapsEnd_145 rfl rfl ?_
                        refine yr_goto 150 C dX9_perhapsEnd_146 (by decide) ?_
                        refine yr_V2u 153 C (mc_change hZ _ hz _ hX _ hR) dX9_perhapsEnd_150 mt_X9_change mv_X9_change ml_X9_213 hR.1 rfl (Nat.le_of_ble_eq_true rfl) (Nat.le_of_ble_eq_true rfl) (Nat.le_of_ble_eq_true rfl) (Nat.le_of_ble_eq_true rfl) (Nat.le_of_ble_eq_true rfl) rfl (fun h hR => ?_)
                        refine yr_aload_n 154 C dX9_perhapsEnd_153 rfl rfl rfl ?_
                        refine yr_iload_n 155 C dX9_perhapsEnd_154 rfl rfl ?_
                        refine yr_aload_n 156 C dX9_perhapsEnd_155 rfl rfl rfl ?_
                        refine ym_get 159 C hR dX9_perhapsEnd_156 fl_X9_133 (by decide) rfl rfl ?_
                        refine yr_aload_n 160 C dX9_perhapsEnd_159 rfl rfl rfl ?_
                        refine ym_getA 163 C hR dX9_perhapsEnd_160 fl_X9_43 (by decide) rfl rfl ?_
                        refine yr_iload_n 164 C dX9_perhapsEnd_163 rfl rfl ?_
                        refine ym_aldN 165 C hR dX9_perhapsEnd_164 (by decide) rfl rfl ?_ rfl ?_
                        · simp only [mL]; omega
                        refine yr_iadd 166 C dX9_perhapsEnd_165 rfl ?_
                        refine yr_V2u 169 C (mc_endsIn hZ _ hz _ (mB_fr hX (m_change_fr X z _)) _ hR) dX9_perhapsEnd_166 mt_X9_endsIn mv_X9_endsIn ml_X9_216 hR.1 rfl (Nat.le_of_ble_eq_true rfl) (Nat.le_of_ble_eq_true rfl) (Nat.le_of_ble_eq_true rfl) (Nat.le_of_ble_eq_true rfl) (Nat.le_of_ble_eq_true rfl) rfl (fun h hR => ?_)
                        refine yr_iinc2 172 C (1) dX9_perhapsEnd_169 rfl (by decide) rfl ?_
                        rw [nI_1]
                        refine yr_goto 111 C dX9_perhapsEnd_172 (by decide) ?_
                        refine yr_forget3 ?_
                        exact ih (i + 1) _ (by omega) (mB_fr hX (mFr_rw (m_peS_rw np g X i) rfl)) (by rw [m_peS_rw np g X i 34 (by decide)]; exact hg2) hf h (by first | (simpa [m_peS, c131] using hR) | (simpa [m_peS, c131, e4, c142] using hR))
                exact loop111 4 0 S (by omega) hB eg rfl h hR
              · refine yr_iload_n 105 C dX9_perhapsEnd_104 rfl rfl ?_
                refine yb_eq 109 108 C dX9_perhapsEnd_105 (by decide) rfl (fun c105 => ?_) (fun c105 => ?_)
                · refine yr_iconst 110 C (0) dX9_perhapsEnd_109 rfl rfl ?_
                  refine yr_istore2 111 C dX9_perhapsEnd_110 (by decide) rfl ?_
                  have loop111 : ∀ (j i : Nat) (X : yS), i + j = 4 → mB X np ns nd nr t → X 34 0 = nI g → m_peL np g j i X = m_peL np g 4 0 S → ∀ h : yH, yMR dA ad m0 (X) h → yW p l e (yR 3 0 0) s m args below meth c 4 D A 0 0 (yF D A (fun r h' => r = none ∧ yMR dA ad m0 (m_pEnd S np ns) h') below args s 0 0) 111 [some (.ref m0), some (.int (bI a)), some (.int (nI i)), none] [] h := by
                    intro j
                    induction j with
                    | zero =>
                      intro i X hij hX hg2 hf h hR
                      obtain rfl : i = 4 := by omega
                      refine yr_iload_n 112 C dX9_perhapsEnd_111 rfl rfl ?_
                      refine yr_iconst 113 C (4) dX9_perhapsEnd_112 rfl rfl ?_
                      refine yr_icmp_ge 175 116 C dX9_perhapsEnd_113 (by decide) rfl (fun c113 => ?_) (fun c113 => ?_)
                      rotate_left
                      · exact absurd (by decide) c113
                      refine yr_aload_n 176 C dX9_perhapsEnd_175 rfl rfl rfl ?_
                      refine yr_bipush 178 C (-5) dX9_perhapsEnd_176 rfl rfl ?_
                      refine ym_put 181 C hR dX9_perhapsEnd_178 fp_X9_95 (by decide) rfl rfl (fun h hR => ?_)
                      refine yr_vret C dX9_perhapsEnd_181 hr (Nat.le_of_ble_eq_true rfl) (Nat.le_of_ble_eq_true rfl) ?_
                      have e6 : m_ends S g = true := by simp [m_ends, ← he2, c4, c11, c27, c94, c101, c105]
                      refine ⟨rfl, ?_⟩
                      have hf2 : X = m_peL np g 4 0 S := hf
                      rw [hf2] at hR
                      simpa [m_pEnd, e5, e6, c4, c11, c27, c94, c101, c105] using hR
                    | succ j ih =>
                      intro i X hij hX hg2 hf h hR
                      have q7 : cO (X 18 (4 * g + i)) np := (show ∀ s, s < ns → ∀ k, k < 4 → cO (X 18 (4 * s + k)) np from hX 7) g hg i (by omega)
                      refine yr_iload_n 112 C dX9_perhapsEnd_111 rfl rfl ?_
                      refine yr_iconst 113 C (4) dX9_perhapsEnd_112 rfl rfl ?_
                      refine yr_icmp_ge 175 116 C dX9_perhapsEnd_113 (by decide) rfl (fun c113 => ?_) (fun c113 => ?_)
                      · exact absurd c113 (nI_ge (b := 4) (by omega) (by decide))
                      refine yr_aload_n 117 C dX9_perhapsEnd_116 rfl rfl rfl ?_
                      refine ym_getA 120 C hR dX9_perhapsEnd_117 fl_X9_56 (by decide) rfl rfl ?_
                      refine yr_iconst 121 C (4) dX9_perhapsEnd_120 rfl rfl ?_
                      refine yr_aload_n 122 C dX9_perhapsEnd_121 rfl rfl rfl ?_
                      refine ym_get 125 C hR dX9_perhapsEnd_122 fl_X9_95 (by decide) rfl rfl ?_
                      rw [hg2]
                      refine yr_imul 126 C dX9_perhapsEnd_125 rfl ?_
                      refine yr_iload_n 127 C dX9_perhapsEnd_126 rfl rfl ?_
                      refine yr_iadd 128 C dX9_perhapsEnd_127 rfl ?_
                      rw [show (4 : Int32) * nI g + nI i = nI (4 * g + i) from ixm]
                      refine ym_aldN 129 C hR dX9_perhapsEnd_128 (by decide) rfl rfl ?_ rfl ?_
                      · simp only [mL]; omega
                      refine yr_istore3 130 C dX9_perhapsEnd_129 (by decide) rfl ?_
                      refine yr_iload_n 131 C dX9_perhapsEnd_130 rfl rfl ?_
                      refine yr_if_lt 169 134 C dX9_perhapsEnd_131 (by decide) rfl (fun c131 => ?_) (fun c131 => ?_)
                      · refine yr_iinc2 172 C (1) dX9_perhapsEnd_169 rfl (by decide) rfl ?_
                        rw [nI_1]
                        refine yr_goto 111 C dX9_perhapsEnd_172 (by decide) ?_
                        refine yr_forget3 ?_
                        exact ih (i + 1) _ (by omega) (mB_fr hX (mFr_rw (m_peS_rw np g X i) rfl)) (by rw [m_peS_rw np g X i 34 (by decide)]; exact hg2) hf h (by first | (simpa [m_peS, c131] using hR) | (simpa [m_peS, c131, e4, c142] using hR))
                      · obtain ⟨z, hz, ez⟩ := cO_lt (by omega) q7 c131
                        have e4 : ix (X 18 (4 * g + i)) = z := by rw [ez]; exact ix_nI (by omega)
                        rw [ez]
                        refine yr_aload_n 135 C dX9_perhapsEnd_134 rfl rfl rfl ?_
                        refine yr_iload_n 136 C dX9_perhapsEnd_135 rfl rfl ?_
                        refine yr_aload_n 137 C dX9_perhapsEnd_136 rfl rfl rfl ?_
                        refine ym_getA 140 C hR dX9_perhapsEnd_137 fl_X9_43 (by decide) rfl rfl ?_
                        refine yr_iload_n 141 C dX9_perhapsEnd_140 rfl rfl ?_
                        refine ym_aldN 142 C hR dX9_perhapsEnd_141 (by decide) rfl rfl ?_ rfl ?_
                        · simp only [mL]; omega
                        refine yr_if_le 149 145 C dX9_perhapsEnd_142 (by decide) rfl (fun c142 => ?_) (fun c142 => ?_)
                        · refine yr_iconst 150 C (0) dX9_perhapsEnd_149 rfl rfl ?_
                          refine yr_V2u 153 C (mc_change hZ _ hz _ hX _ hR) dX9_perhapsEnd_150 mt_X9_change mv_X9_change ml_X9_213 hR.1 rfl (Nat.le_of_ble_eq_true rfl) (Nat.le_of_ble_eq_true rfl) (Nat.le_of_ble_eq_true rfl) (Nat.le_of_ble_eq_true rfl) (Nat.le_of_ble_eq_true rfl) rfl (fun h hR => ?_)
                          refine yr_aload_n 154 C dX9_perhapsEnd_153 rfl rfl rfl ?_
                          refine yr_iload_n 155 C dX9_perhapsEnd_154 rfl rfl ?_
                          refine yr_aload_n 156 C dX9_perhapsEnd_155 rfl rfl rfl ?_
                          refine ym_get 159 C hR dX9_perhapsEnd_156 fl_X9_133 (by decide) rfl rfl ?_
                          refine yr_aload_n 160 C dX9_perhapsEnd_159 rfl rfl rfl ?_
                          refine ym_getA 163 C hR dX9_perhapsEnd_160 fl_X9_43 (by decide) rfl rfl ?_
                          refine yr_iload_n 164 C dX9_perhapsEnd_163 rfl rfl ?_
                          refine ym_aldN 165 C hR dX9_perhapsEnd_164 (by decide) rfl rfl ?_ rfl ?_
                          · simp only [mL]; omega
                          refine yr_iadd 166 C dX9_perhapsEnd_165 rfl ?_
                          refine yr_V2u 169 C (mc_endsIn hZ _ hz _ (mB_fr hX (m_change_fr X z _)) _ hR) dX9_perhapsEnd_166 mt_X9_endsIn mv_X9_endsIn ml_X9_216 hR.1 rfl (Nat.le_of_ble_eq_true rfl) (Nat.le_of_ble_eq_true rfl) (Nat.le_of_ble_eq_true rfl) (Nat.le_of_ble_eq_true rfl) (Nat.le_of_ble_eq_true rfl) rfl (fun h hR => ?_)
                          refine yr_iinc2 172 C (1) dX9_perhapsEnd_169 rfl (by decide) rfl ?_
                          rw [nI_1]
                          refine yr_goto 111 C dX9_perhapsEnd_172 (by decide) ?_
                          refine yr_forget3 ?_
                          exact ih (i + 1) _ (by omega) (mB_fr hX (mFr_rw (m_peS_rw np g X i) rfl)) (by rw [m_peS_rw np g X i 34 (by decide)]; exact hg2) hf h (by first | (simpa [m_peS, c131] using hR) | (simpa [m_peS, c131, e4, c142] using hR))
                        · refine yr_iconst 146 C (2) dX9_perhapsEnd_145 rfl rfl ?_
                          refine yr_goto 150 C dX9_perhapsEnd_146 (by decide) ?_
                          refine yr_V2u 153 C (mc_change hZ _ hz _ hX _ hR) dX9_perhapsEnd_150 mt_X9_change mv_X9_change ml_X9_213 hR.1 rfl (Nat.le_of_ble_eq_true rfl) (Nat.le_of_ble_eq_true rfl) (Nat.le_of_ble_eq_true rfl) (Nat.le_of_ble_eq_true rfl) (Nat.le_of_ble_eq_true rfl) rfl (fun h hR => ?_)
                          refine yr_aload_n 154 C dX9_perhapsEnd_153 rfl rfl rfl ?_
                          refine yr_iload_n 155 C dX9_perhapsEnd_154 rfl rfl ?_
                          refine yr_aload_n 156 C dX9_perhapsEnd_155 rfl rfl rfl ?_
                          refine ym_get 159 C hR dX9_perhapsEnd_156 fl_X9_133 (by decide) rfl rfl ?_
                          refine yr_aload_n 160 C dX9_perhapsEnd_159 rfl rfl rfl ?_
                          refine ym_getA 163 C hR dX9_perhapsEnd_160 fl_X9_43 (by decide) rfl rfl ?_
                          refine yr_iload_n 164 C dX9_perhapsEnd_163 rfl rfl ?_
                          refine ym_aldN 165 C hR dX9_perhapsEnd_164 (by decide) rfl rfl ?_ rfl ?_
                          · simp only [mL]; omega
                          refine yr_iadd 166 C dX9_perhapsEnd_165 rfl ?_
                          refine yr_V2u 169 C (mc_endsIn hZ _ hz _ (mB_fr hX (m_change_fr X z _)) _ hR) dX9_perhapsEnd_166 mt_X9_endsIn mv_X9_endsIn ml_X9_216 hR.1 rfl (Nat.le_of_ble_eq_true rfl) (Nat.le_of_ble_eq_true rfl) (Nat.le_of_ble_eq_true rfl) (Nat.le_of_ble_eq_true rfl) (Nat.le_of_ble_eq_true rfl) rfl (fun h hR => ?_)
                          refine yr_iinc2 172 C (1) dX9_perhapsEnd_169 rfl (by decide) rfl ?_
                          rw [nI_1]
                          refine yr_goto 111 C dX9_perhapsEnd_172 (by decide) ?_
                          refine yr_forget3 ?_
                          exact ih (i + 1) _ (by omega) (mB_fr hX (mFr_rw (m_peS_rw np g X i) rfl)) (by rw [m_peS_rw np g X i 34 (by decide)]; exact hg2) hf h (by first | (simpa [m_peS, c131] using hR) | (simpa [m_peS, c131, e4, c142] using hR))
                  exact loop111 4 0 S (by omega) hB eg rfl h hR
                · refine yr_vret C dX9_perhapsEnd_108 hr (Nat.le_of_ble_eq_true rfl) (Nat.le_of_ble_eq_true rfl) ?_
                  have e6 : m_ends S g = false := by simp [m_ends, ← he2, c4, c11, c27, c94, c101, c105]
                  refine ⟨rfl, ?_⟩
                  simpa [m_pEnd, e5, e6, c4, c11, c27, c94, c101, c105] using hR
          | succ j ih =>
            intro i a hij he h hR
            have q7 : cO (S 18 (4 * g + i)) np := (show ∀ s, s < ns → ∀ k, k < 4 → cO (S 18 (4 * s + k)) np from hB 7) g hg i (by omega)
            refine yr_iload_n 36 C dX9_perhapsEnd_35 rfl rfl ?_
            refine yr_iconst 37 C (4) dX9_perhapsEnd_36 rfl rfl ?_
            refine yr_icmp_ge 81 40 C dX9_perhapsEnd_37 (by decide) rfl (fun c37 => ?_) (fun c37 => ?_)
            · exact absurd c37 (nI_ge (b := 4) (by omega) (by decide))
            refine yr_aload_n 41 C dX9_perhapsEnd_40 rfl rfl rfl ?_
            refine ym_getA 44 C hR dX9_perhapsEnd_41 fl_X9_56 (by decide) rfl rfl ?_
            refine yr_iconst 45 C (4) dX9_perhapsEnd_44 rfl rfl ?_
            refine yr_aload_n 46 C dX9_perhapsEnd_45 rfl rfl rfl ?_
            refine ym_get 49 C hR dX9_perhapsEnd_46 fl_X9_95 (by decide) rfl rfl ?_
            rw [eg]
            refine yr_imul 50 C dX9_perhapsEnd_49 rfl ?_
            refine yr_iload_n 51 C dX9_perhapsEnd_50 rfl rfl ?_
            refine yr_iadd 52 C dX9_perhapsEnd_51 rfl ?_
            rw [show (4 : Int32) * nI g + nI i = nI (4 * g + i) from ixm]
            refine ym_aldN 53 C hR dX9_perhapsEnd_52 (by decide) rfl rfl ?_ rfl ?_
            · simp only [mL]; omega
            refine yr_istore3 54 C dX9_perhapsEnd_53 (by decide) rfl ?_
            refine yr_iload_n 55 C dX9_perhapsEnd_54 rfl rfl ?_
            refine yr_iload_n 56 C dX9_perhapsEnd_55 rfl rfl ?_
            refine yr_if_lt 72 59 C dX9_perhapsEnd_56 (by decide) rfl (fun c56 => ?_) (fun c56 => ?_)
            · refine yr_iconst 73 C (0) dX9_perhapsEnd_72 rfl rfl ?_
              refine yr_ior 74 C dX9_perhapsEnd_73 rfl ?_
              rw [or_0 (a := a) (b := (!decide (S 18 (4 * g + i) < 0) && !decide (S 15 (ix (S 18 (4 * g + i))) = 0))) (by simp [c56])]
              refine yr_istore1 75 C dX9_perhapsEnd_74 (by decide) rfl ?_
              refine yr_iinc2 78 C (1) dX9_perhapsEnd_75 rfl (by decide) rfl ?_
              rw [nI_1]
              refine yr_goto 35 C dX9_perhapsEnd_78 (by decide) ?_
              refine yr_forget3 ?_
              exact ih (i + 1) _ (by omega) he h hR
            · obtain ⟨z, hz, ez⟩ := cO_lt (by omega) q7 c56
              have e4 : ix (S 18 (4 * g + i)) = z := by rw [ez]; exact ix_nI (by omega)
              refine yr_aload_n 60 C dX9_perhapsEnd_59 rfl rfl rfl ?_
              refine ym_getA 63 C hR dX9_perhapsEnd_60 fl_X9_50 (by decide) rfl rfl ?_
              rw [ez]
              refine yr_iload_n 64 C dX9_perhapsEnd_63 rfl rfl ?_
              refine ym_zaldN 65 C hR dX9_perhapsEnd_64 (by decide) rfl rfl ?_ rfl ?_
              · simp only [mL]; omega
              refine yr_if_eq 72 68 C dX9_perhapsEnd_65 (by decide) rfl (fun c65 => ?_) (fun c65 => ?_)
              · refine yr_iconst 73 C (0) dX9_perhapsEnd_72 rfl rfl ?_
                refine yr_ior 74 C dX9_perhapsEnd_73 rfl ?_
                rw [or_0 (a := a) (b := (!decide (S 18 (4 * g + i) < 0) && !decide (S 15 (ix (S 18 (4 * g + i))) = 0))) (by simp [c56, c65, e4])]
                refine yr_istore1 75 C dX9_perhapsEnd_74 (by decide) rfl ?_
                refine yr_iinc2 78 C (1) dX9_perhapsEnd_75 rfl (by decide) rfl ?_
                rw [nI_1]
                refine yr_goto 35 C dX9_perhapsEnd_78 (by decide) ?_
                refine yr_forget3 ?_
                exact ih (i + 1) _ (by omega) he h hR
              · refine yr_iconst 69 C (1) dX9_perhapsEnd_68 rfl rfl ?_
                refine yr_goto 73 C dX9_perhapsEnd_69 (by decide) ?_
                refine yr_ior 74 C dX9_perhapsEnd_73 rfl ?_
                rw [or_1 (a := a) (b := (!decide (S 18 (4 * g + i) < 0) && !decide (S 15 (ix (S 18 (4 * g + i))) = 0))) (by simp [c56, c65, e4])]
                refine yr_istore1 75 C dX9_perhapsEnd_74 (by decide) rfl ?_
                refine yr_iinc2 78 C (1) dX9_perhapsEnd_75 rfl (by decide) rfl ?_
                rw [nI_1]
                refine yr_goto 35 C dX9_perhapsEnd_78 (by decide) ?_
                refine yr_forget3 ?_
                exact ih (i + 1) _ (by omega) he h hR
        exact loop35 4 0 false rfl rfl h hR
      · refine yr_vret C dX9_perhapsEnd_30 hr (Nat.le_of_ble_eq_true rfl) (Nat.le_of_ble_eq_true rfl) ?_
        refine ⟨rfl, ?_⟩
        simpa [m_pEnd, c4, c11, c27] using hR
set_option maxHeartbeats 4000000 in
set_option maxRecDepth 100000 in
theorem mc_perhapsBegin (hZ : yZok D dA Z)  (hB : mB S np ns nd nr t) (hhu : cO (S 39 0) ns) (hl : S 38 0 = -1 ∨ ∃ s, s < ns ∧ S 38 0 = nI s) (h : yH) (hR : yMR dA ad m0 (S) h) : yM Z D yX9_perhapsBegin cX9_perhapsBegin 4 none 3 0 0 [.ref m0] h (fun r h' => r = none ∧ yMR dA ad m0 (m_pBegin S ns) h') := by
  refine yM_of hZ (by decide) rfl (Nat.le_of_ble_eq_true rfl) ?_
  intro p l e s m args below meth c A C hr hin
  show yW p l e (yR 3 0 0) s m args below meth c 4 D A 0 0 _ 0 [some (.ref m0), none, none, none] [] h
  have k1 : S 17 0 = nI ns ∧ ns ≤ 6 := hB 1
  have k0 : S 1 0 = nI np ∧ np ≤ 8 := hB 0
  refine yr_aload_n 1 C dX9_perhapsBegin_0 rfl rfl rfl ?_
  refine yr_V0v 4 C (mc_next hZ hB hl _ hR) dX9_perhapsBegin_1 mt_X9_next mv_X9_next ml_X9_229 hR.1 rfl (Nat.le_of_ble_eq_true rfl) (Nat.le_of_ble_eq_true rfl) (Nat.le_of_ble_eq_true rfl) (Nat.le_of_ble_eq_true rfl) (Nat.le_of_ble_eq_true rfl) rfl (fun h hR => ?_)
  refine yr_istore1 5 C dX9_perhapsBegin_4 (by decide) rfl ?_
  have hnx := m_next_cO (S := S) hhu
  refine yr_aload_n 6 C dX9_perhapsBegin_5 rfl rfl rfl ?_
  refine ym_get 9 C hR dX9_perhapsBegin_6 fl_X9_95 (by decide) rfl rfl ?_
  refine yr_if_ge 16 12 C dX9_perhapsBegin_9 (by decide) rfl (fun c9 => ?_) (fun c9 => ?_)
  · refine yr_vret C dX9_perhapsBegin_16 hr (Nat.le_of_ble_eq_true rfl) (Nat.le_of_ble_eq_true rfl) ?_
    refine ⟨rfl, ?_⟩
    simpa [m_pBegin, c9] using hR
  · refine yr_iload_n 13 C dX9_perhapsBegin_12 rfl rfl ?_
    refine yr_if_ge 17 16 C dX9_perhapsBegin_13 (by decide) rfl (fun c13 => ?_) (fun c13 => ?_)
    · obtain ⟨g, hg, eg⟩ := cO_lt (by omega) hnx (Int32.not_lt.mpr c13)
      have e5 : ix (m_next S ns) = g := by rw [eg]; exact ix_nI (by omega)
      rw [eg]
      refine yr_iconst 18 C (0) dX9_perhapsBegin_17 rfl rfl ?_
      refine yr_istore2 19 C dX9_perhapsBegin_18 (by decide) rfl ?_
      have loop19 : ∀ (j i : Nat) , i + j = 4 → m_mayL S g j i = m_mayL S g 4 0 → ∀ h : yH, yMR dA ad m0 (S) h → yW p l e (yR 3 0 0) s m args below meth c 4 D A 0 0 (yF D A (fun r h' => r = none ∧ yMR dA ad m0 (m_pBegin S ns) h') below args s 0 0) 19 [some (.ref m0), some (.int (nI g)), some (.int (nI i)), none] [] h := by
        intro j
        induction j with
        | zero =>
          intro i  hij he h hR
          obtain rfl : i = 4 := by omega
          have he2 : true = m_mayL S g 4 0 := he
          refine yr_iload_n 20 C dX9_perhapsBegin_19 rfl rfl ?_
          refine yr_iconst 21 C (4) dX9_perhapsBegin_20 rfl rfl ?_
          refine yr_icmp_ge 68 24 C dX9_perhapsBegin_21 (by decide) rfl (fun c21 => ?_) (fun c21 => ?_)
          rotate_left
          · exact absurd (by decide) c21
          refine yr_aload_n 69 C dX9_perhapsBegin_68 rfl rfl rfl ?_
          refine yr_iload_n 70 C dX9_perhapsBegin_69 rfl rfl ?_
          refine ym_put 73 C hR dX9_perhapsBegin_70 fp_X9_95 (by decide) rfl rfl (fun h hR => ?_)
          refine yr_aload_n 74 C dX9_perhapsBegin_73 rfl rfl rfl ?_
          refine yr_iload_n 75 C dX9_perhapsBegin_74 rfl rfl ?_
          refine ym_put 78 C hR dX9_perhapsBegin_75 fp_X9_99 (by decide) rfl rfl (fun h hR => ?_)
          refine yr_aload_n 79 C dX9_perhapsBegin_78 rfl rfl rfl ?_
          refine yr_aload_n 80 C dX9_perhapsBegin_79 rfl rfl rfl ?_
          refine ym_get 83 C hR dX9_perhapsBegin_80 fl_X9_133 (by decide) rfl rfl ?_
          refine ym_put 86 C hR dX9_perhapsBegin_83 fp_X9_189 (by decide) rfl rfl (fun h hR => ?_)
          replace hR : yMR dA ad m0 (m_pb1 S (nI g)) h := by simpa [m_pb1, mset_ne] using hR
          have hB1 := mB_since hB (nI g)
          refine yr_aload_n 87 C dX9_perhapsBegin_86 rfl rfl rfl ?_
          refine yr_aload_n 88 C dX9_perhapsBegin_87 rfl rfl rfl ?_
          refine yr_iload_n 89 C dX9_perhapsBegin_88 rfl rfl ?_
          refine yr_V1v 92 C (mc_leastOf hZ _ hg hB1 _ hR) dX9_perhapsBegin_89 mt_X9_leastOf mv_X9_leastOf ml_X9_192 hR.1 rfl (Nat.le_of_ble_eq_true rfl) (Nat.le_of_ble_eq_true rfl) (Nat.le_of_ble_eq_true rfl) (Nat.le_of_ble_eq_true rfl) (Nat.le_of_ble_eq_true rfl) rfl (fun h hR => ?_)
          refine ym_put 95 C hR dX9_perhapsBegin_92 fp_X9_223 (by decide) rfl rfl (fun h hR => ?_)
          replace hR : yMR dA ad m0 (m_pb2 (m_pb1 S (nI g)) g) h := hR
          have hB2 : mB (m_pb2 (m_pb1 S (nI g)) g) np ns nd nr t := mB_fr hB1 (mFr_set _ 0 _ (show mFk 36 = true from rfl))
          refine yr_aload_n 96 C dX9_perhapsBegin_95 rfl rfl rfl ?_
          refine yr_aload_n 97 C dX9_perhapsBegin_96 rfl rfl rfl ?_
          refine yr_iload_n 98 C dX9_perhapsBegin_97 rfl rfl ?_
          refine yr_V1v 101 C (mc_greatestOf hZ _ hg hB2 _ hR) dX9_perhapsBegin_98 mt_X9_greatestOf mv_X9_greatestOf ml_X9_233 hR.1 rfl (Nat.le_of_ble_eq_true rfl) (Nat.le_of_ble_eq_true rfl) (Nat.le_of_ble_eq_true rfl) (Nat.le_of_ble_eq_true rfl) (Nat.le_of_ble_eq_true rfl) rfl (fun h hR => ?_)
          refine ym_put 104 C hR dX9_perhapsBegin_101 fp_X9_226 (by decide) rfl rfl (fun h hR => ?_)
          replace hR : yMR dA ad m0 (m_pb3 (m_pb2 (m_pb1 S (nI g)) g) g) h := hR
          have hB3 : mB (m_pb3 (m_pb2 (m_pb1 S (nI g)) g) g) np ns nd nr t := mB_fr hB2 (mFr_set _ 0 _ (show mFk 37 = true from rfl))
          refine yr_aload_n 105 C dX9_perhapsBegin_104 rfl rfl rfl ?_
          refine yr_aload_n 106 C dX9_perhapsBegin_105 rfl rfl rfl ?_
          refine ym_get 109 C hR dX9_perhapsBegin_106 fl_X9_102 (by decide) rfl rfl ?_
          refine yr_iload_n 110 C dX9_perhapsBegin_109 rfl rfl ?_
          refine yr_icmp_ne 118 113 C dX9_perhapsBegin_110 (by decide) rfl (fun c110 => ?_) (fun c110 => ?_)
          · refine yr_aload_n 119 C dX9_perhapsBegin_118 rfl rfl rfl ?_
            refine ym_get 122 C hR dX9_perhapsBegin_119 fl_X9_102 (by decide) rfl rfl ?_
            refine ym_put 125 C hR dX9_perhapsBegin_122 fp_X9_102 (by decide) rfl rfl (fun h hR => ?_)
            replace hR : yMR dA ad m0 (m_pb4 (m_pb3 (m_pb2 (m_pb1 S (nI g)) g) g) (nI g)) h := by simpa [m_pb4, c110] using hR
            refine yr_iconst 126 C (0) dX9_perhapsBegin_125 rfl rfl ?_
            refine yr_istore2 127 C dX9_perhapsBegin_126 (by decide) rfl ?_
            have loop127 : ∀ (j i : Nat) (X : yS), i + j = 4 → mB X np ns nd nr t → m_pbL g j i X = m_begin S g → ∀ h : yH, yMR dA ad m0 (X) h → yW p l e (yR 3 0 0) s m args below meth c 4 D A 0 0 (yF D A (fun r h' => r = none ∧ yMR dA ad m0 (m_pBegin S ns) h') below args s 0 0) 127 [some (.ref m0), some (.int (nI g)), some (.int (nI i)), none] [] h := by
              intro j
              induction j with
              | zero =>
                intro i X hij hX hf h hR
                obtain rfl : i = 4 := by omega
                refine yr_iload_n 128 C dX9_perhapsBegin_127 rfl rfl ?_
                refine yr_iconst 129 C (4) dX9_perhapsBegin_128 rfl rfl ?_
                refine yr_icmp_ge 177 132 C dX9_perhapsBegin_129 (by decide) rfl (fun c129 => ?_) (fun c129 => ?_)
                rotate_left
                · exact absurd (by decide) c129
                refine yr_vret C dX9_perhapsBegin_177 hr (Nat.le_of_ble_eq_true rfl) (Nat.le_of_ble_eq_true rfl) ?_
                have hf2 : X = m_begin S g := hf
                rw [hf2] at hR
                refine ⟨rfl, ?_⟩
                simpa [m_pBegin, c9, c13, e5, ← he2] using hR
              | succ j ih =>
                intro i X hij hX hf h hR
                have q7 : cO (X 18 (4 * g + i)) np := (show ∀ s, s < ns → ∀ k, k < 4 → cO (X 18 (4 * s + k)) np from hX 7) g hg i (by omega)
                refine yr_iload_n 128 C dX9_perhapsBegin_127 rfl rfl ?_
                refine yr_iconst 129 C (4) dX9_perhapsBegin_128 rfl rfl ?_
                refine yr_icmp_ge 177 132 C dX9_perhapsBegin_129 (by decide) rfl (fun c129 => ?_) (fun c129 => ?_)
                · exact absurd c129 (nI_ge (b := 4) (by omega) (by decide))
                refine yr_aload_n 133 C dX9_perhapsBegin_132 rfl rfl rfl ?_
                refine ym_getA 136 C hR dX9_perhapsBegin_133 fl_X9_56 (by decide) rfl rfl ?_
                refine yr_iconst 137 C (4) dX9_perhapsBegin_136 rfl rfl ?_
                refine yr_iload_n 138 C dX9_perhapsBegin_137 rfl rfl ?_
                refine yr_imul 139 C dX9_perhapsBegin_138 rfl ?_
                refine yr_iload_n 140 C dX9_perhapsBegin_139 rfl rfl ?_
                refine yr_iadd 141 C dX9_perhapsBegin_140 rfl ?_
                rw [show (4 : Int32) * nI g + nI i = nI (4 * g + i) from ixm]
                refine ym_aldN 142 C hR dX9_perhapsBegin_141 (by decide) rfl rfl ?_ rfl ?_
                · simp only [mL]; omega
                refine yr_istore3 143 C dX9_perhapsBegin_142 (by decide) rfl ?_
                refine yr_iload_n 144 C dX9_perhapsBegin_143 rfl rfl ?_
                refine yr_if_lt 171 147 C dX9_perhapsBegin_144 (by decide) rfl (fun c144 => ?_) (fun c144 => ?_)
                · refine yr_iinc2 174 C (1) dX9_perhapsBegin_171 rfl (by decide) rfl ?_
                  rw [nI_1]
                  refine yr_goto 127 C dX9_perhapsBegin_174 (by decide) ?_
                  refine yr_forget3 ?_
                  exact ih (i + 1) _ (by omega) (mB_fr hX (mFr_rw (m_pbS_rw g X i) rfl)) hf h (by first | (simpa [m_pbS, c144] using hR) | (simpa [m_pbS, c144, e4] using hR))
                · obtain ⟨z, hz, ez⟩ := cO_lt (by omega) q7 c144
                  have e4 : ix (X 18 (4 * g + i)) = z := by rw [ez]; exact ix_nI (by omega)
                  rw [ez]
                  refine yr_aload_n 148 C dX9_perhapsBegin_147 rfl rfl rfl ?_
                  refine yr_iload_n 149 C dX9_perhapsBegin_148 rfl rfl ?_
                  refine yr_iconst 150 C (1) dX9_perhapsBegin_149 rfl rfl ?_
                  refine yr_V2u 153 C (mc_change hZ _ hz _ hX _ hR) dX9_perhapsBegin_150 mt_X9_change mv_X9_change ml_X9_213 hR.1 rfl (Nat.le_of_ble_eq_true rfl) (Nat.le_of_ble_eq_true rfl) (Nat.le_of_ble_eq_true rfl) (Nat.le_of_ble_eq_true rfl) (Nat.le_of_ble_eq_true rfl) rfl (fun h hR => ?_)
                  refine yr_aload_n 154 C dX9_perhapsBegin_153 rfl rfl rfl ?_
                  refine ym_getA 157 C hR dX9_perhapsBegin_154 fl_X9_25 (by decide) rfl rfl ?_
                  refine yr_iload_n 158 C dX9_perhapsBegin_157 rfl rfl ?_
                  refine yr_dup2 159 C dX9_perhapsBegin_158 rfl rfl rfl ?_
                  refine ym_aldN 160 C hR dX9_perhapsBegin_159 (by decide) rfl rfl ?_ rfl ?_
                  · simp only [mL]; omega
                  refine yr_iconst 161 C (1) dX9_perhapsBegin_160 rfl rfl ?_
                  refine yr_iadd 162 C dX9_perhapsBegin_161 rfl ?_
                  refine ym_astN 163 C hR dX9_perhapsBegin_162 (by decide) rfl rfl ?_ rfl (fun h hR => ?_)
                  · simp only [mL]; omega
                  refine yr_aload_n 164 C dX9_perhapsBegin_163 rfl rfl rfl ?_
                  refine ym_getA 167 C hR dX9_perhapsBegin_164 fl_X9_34 (by decide) rfl rfl ?_
                  refine yr_iload_n 168 C dX9_perhapsBegin_167 rfl rfl ?_
                  refine yr_bipush 170 C (-5) dX9_perhapsBegin_168 rfl rfl ?_
                  refine ym_astN 171 C hR dX9_perhapsBegin_170 (by decide) rfl rfl ?_ rfl (fun h hR => ?_)
                  · simp only [mL]; omega
                  refine yr_iinc2 174 C (1) dX9_perhapsBegin_171 rfl (by decide) rfl ?_
                  rw [nI_1]
                  refine yr_goto 127 C dX9_perhapsBegin_174 (by decide) ?_
                  refine yr_forget3 ?_
                  exact ih (i + 1) _ (by omega) (mB_fr hX (mFr_rw (m_pbS_rw g X i) rfl)) hf h (by first | (simpa [m_pbS, c144] using hR) | (simpa [m_pbS, c144, e4] using hR))
            exact loop127 4 0 _ (by omega) (mB_fr hB3 (mFr_set _ 0 _ (show mFk 39 = true from rfl))) rfl h hR
          · refine yr_bipush 115 C (-5) dX9_perhapsBegin_113 rfl rfl ?_
            refine yr_goto 122 C dX9_perhapsBegin_115 (by decide) ?_
            refine ym_put 125 C hR dX9_perhapsBegin_122 fp_X9_102 (by decide) rfl rfl (fun h hR => ?_)
            replace hR : yMR dA ad m0 (m_pb4 (m_pb3 (m_pb2 (m_pb1 S (nI g)) g) g) (nI g)) h := by simpa [m_pb4, c110] using hR
            refine yr_iconst 126 C (0) dX9_perhapsBegin_125 rfl rfl ?_
            refine yr_istore2 127 C dX9_perhapsBegin_126 (by decide) rfl ?_
            have loop127 : ∀ (j i : Nat) (X : yS), i + j = 4 → mB X np ns nd nr t → m_pbL g j i X = m_begin S g → ∀ h : yH, yMR dA ad m0 (X) h → yW p l e (yR 3 0 0) s m args below meth c 4 D A 0 0 (yF D A (fun r h' => r = none ∧ yMR dA ad m0 (m_pBegin S ns) h') below args s 0 0) 127 [some (.ref m0), some (.int (nI g)), some (.int (nI i)), none] [] h := by
              intro j
              induction j with
              | zero =>
                intro i X hij hX hf h hR
                obtain rfl : i = 4 := by omega
                refine yr_iload_n 128 C dX9_perhapsBegin_127 rfl rfl ?_
                refine yr_iconst 129 C (4) dX9_perhapsBegin_128 rfl rfl ?_
                refine yr_icmp_ge 177 132 C dX9_perhapsBegin_129 (by decide) rfl (fun c129 => ?_) (fun c129 => ?_)
                rotate_left
                · exact absurd (by decide) c129
                refine yr_vret C dX9_perhapsBegin_177 hr (Nat.le_of_ble_eq_true rfl) (Nat.le_of_ble_eq_true rfl) ?_
                have hf2 : X = m_begin S g := hf
                rw [hf2] at hR
                refine ⟨rfl, ?_⟩
                simpa [m_pBegin, c9, c13, e5, ← he2] using hR
              | succ j ih =>
                intro i X hij hX hf h hR
                have q7 : cO (X 18 (4 * g + i)) np := (show ∀ s, s < ns → ∀ k, k < 4 → cO (X 18 (4 * s + k)) np from hX 7) g hg i (by omega)
                refine yr_iload_n 128 C dX9_perhapsBegin_127 rfl rfl ?_
                refine yr_iconst 129 C (4) dX9_perhapsBegin_128 rfl rfl ?_
                refine yr_icmp_ge 177 132 C dX9_perhapsBegin_129 (by decide) rfl (fun c129 => ?_) (fun c129 => ?_)
                · exact absurd c129 (nI_ge (b := 4) (by omega) (by decide))
                refine yr_aload_n 133 C dX9_perhapsBegin_132 rfl rfl rfl ?_
                refine ym_getA 136 C hR dX9_perhapsBegin_133 fl_X9_56 (by decide) rfl rfl ?_
                refine yr_iconst 137 C (4) dX9_perhapsBegin_136 rfl rfl ?_
                refine yr_iload_n 138 C dX9_perhapsBegin_137 rfl rfl ?_
                refine yr_imul 139 C dX9_perhapsBegin_138 rfl ?_
                refine yr_iload_n 140 C dX9_perhapsBegin_139 rfl rfl ?_
                refine yr_iadd 141 C dX9_perhapsBegin_140 rfl ?_
                rw [show (4 : Int32) * nI g + nI i = nI (4 * g + i) from ixm]
                refine ym_aldN 142 C hR dX9_perhapsBegin_141 (by decide) rfl rfl ?_ rfl ?_
                · simp only [mL]; omega
                refine yr_istore3 143 C dX9_perhapsBegin_142 (by decide) rfl ?_
                refine yr_iload_n 144 C dX9_perhapsBegin_143 rfl rfl ?_
                refine yr_if_lt 171 147 C dX9_perhapsBegin_144 (by decide) rfl (fun c144 => ?_) (fun c144 => ?_)
                · refine yr_iinc2 174 C (1) dX9_perhapsBegin_171 rfl (by decide) rfl ?_
                  rw [nI_1]
                  refine yr_goto 127 C dX9_perhapsBegin_174 (by decide) ?_
                  refine yr_forget3 ?_
                  exact ih (i + 1) _ (by omega) (mB_fr hX (mFr_rw (m_pbS_rw g X i) rfl)) hf h (by first | (simpa [m_pbS, c144] using hR) | (simpa [m_pbS, c144, e4] using hR))
                · obtain ⟨z, hz, ez⟩ := cO_lt (by omega) q7 c144
                  have e4 : ix (X 18 (4 * g + i)) = z := by rw [ez]; exact ix_nI (by omega)
                  rw [ez]
                  refine yr_aload_n 148 C dX9_perhapsBegin_147 rfl rfl rfl ?_
                  refine yr_iload_n 149 C dX9_perhapsBegin_148 rfl rfl ?_
                  refine yr_iconst 150 C (1) dX9_perhapsBegin_149 rfl rfl ?_
                  refine yr_V2u 153 C (mc_change hZ _ hz _ hX _ hR) dX9_perhapsBegin_150 mt_X9_change mv_X9_change ml_X9_213 hR.1 rfl (Nat.le_of_ble_eq_true rfl) (Nat.le_of_ble_eq_true rfl) (Nat.le_of_ble_eq_true rfl) (Nat.le_of_ble_eq_true rfl) (Nat.le_of_ble_eq_true rfl) rfl (fun h hR => ?_)
                  refine yr_aload_n 154 C dX9_perhapsBegin_153 rfl rfl rfl ?_
                  refine ym_getA 157 C hR dX9_perhapsBegin_154 fl_X9_25 (by decide) rfl rfl ?_
                  refine yr_iload_n 158 C dX9_perhapsBegin_157 rfl rfl ?_
                  refine yr_dup2 159 C dX9_perhapsBegin_158 rfl rfl rfl ?_
                  refine ym_aldN 160 C hR dX9_perhapsBegin_159 (by decide) rfl rfl ?_ rfl ?_
                  · simp only [mL]; omega
                  refine yr_iconst 161 C (1) dX9_perhapsBegin_160 rfl rfl ?_
                  refine yr_iadd 162 C dX9_perhapsBegin_161 rfl ?_
                  refine ym_astN 163 C hR dX9_perhapsBegin_162 (by decide) rfl rfl ?_ rfl (fun h hR => ?_)
                  · simp only [mL]; omega
                  refine yr_aload_n 164 C dX9_perhapsBegin_163 rfl rfl rfl ?_
                  refine ym_getA 167 C hR dX9_perhapsBegin_164 fl_X9_34 (by decide) rfl rfl ?_
                  refine yr_iload_n 168 C dX9_perhapsBegin_167 rfl rfl ?_
                  refine yr_bipush 170 C (-5) dX9_perhapsBegin_168 rfl rfl ?_
                  refine ym_astN 171 C hR dX9_perhapsBegin_170 (by decide) rfl rfl ?_ rfl (fun h hR => ?_)
                  · simp only [mL]; omega
                  refine yr_iinc2 174 C (1) dX9_perhapsBegin_171 rfl (by decide) rfl ?_
                  rw [nI_1]
                  refine yr_goto 127 C dX9_perhapsBegin_174 (by decide) ?_
                  refine yr_forget3 ?_
                  exact ih (i + 1) _ (by omega) (mB_fr hX (mFr_rw (m_pbS_rw g X i) rfl)) hf h (by first | (simpa [m_pbS, c144] using hR) | (simpa [m_pbS, c144, e4] using hR))
            exact loop127 4 0 _ (by omega) (mB_fr hB3 (mFr_set _ 0 _ (show mFk 39 = true from rfl))) rfl h hR
        | succ j ih =>
          intro i  hij he h hR
          have q7 : cO (S 18 (4 * g + i)) np := (show ∀ s, s < ns → ∀ k, k < 4 → cO (S 18 (4 * s + k)) np from hB 7) g hg i (by omega)
          refine yr_iload_n 20 C dX9_perhapsBegin_19 rfl rfl ?_
          refine yr_iconst 21 C (4) dX9_perhapsBegin_20 rfl rfl ?_
          refine yr_icmp_ge 68 24 C dX9_perhapsBegin_21 (by decide) rfl (fun c21 => ?_) (fun c21 => ?_)
          · exact absurd c21 (nI_ge (b := 4) (by omega) (by decide))
          refine yr_aload_n 25 C dX9_perhapsBegin_24 rfl rfl rfl ?_
          refine ym_getA 28 C hR dX9_perhapsBegin_25 fl_X9_56 (by decide) rfl rfl ?_
          refine yr_iconst 29 C (4) dX9_perhapsBegin_28 rfl rfl ?_
          refine yr_iload_n 30 C dX9_perhapsBegin_29 rfl rfl ?_
          refine yr_imul 31 C dX9_perhapsBegin_30 rfl ?_
          refine yr_iload_n 32 C dX9_perhapsBegin_31 rfl rfl ?_
          refine yr_iadd 33 C dX9_perhapsBegin_32 rfl ?_
          rw [show (4 : Int32) * nI g + nI i = nI (4 * g + i) from ixm]
          refine ym_aldN 34 C hR dX9_perhapsBegin_33 (by decide) rfl rfl ?_ rfl ?_
          · simp only [mL]; omega
          refine yr_istore3 35 C dX9_perhapsBegin_34 (by decide) rfl ?_
          refine yr_iload_n 36 C dX9_perhapsBegin_35 rfl rfl ?_
          refine yr_if_lt 62 39 C dX9_perhapsBegin_36 (by decide) rfl (fun c36 => ?_) (fun c36 => ?_)
          · refine yr_iinc2 65 C (1) dX9_perhapsBegin_62 rfl (by decide) rfl ?_
            rw [nI_1]
            refine yr_goto 19 C dX9_perhapsBegin_65 (by decide) ?_
            refine yr_forget3 ?_
            exact ih (i + 1) (by omega) (by rw [← he]; first | (simp [m_mayL, c36]; done) | (simp [m_mayL, c36, e4, c45, c58])) h hR
          · obtain ⟨z, hz, ez⟩ := cO_lt (by omega) q7 c36
            have e4 : ix (S 18 (4 * g + i)) = z := by rw [ez]; exact ix_nI (by omega)
            rw [ez]
            refine yr_aload_n 40 C dX9_perhapsBegin_39 rfl rfl rfl ?_
            refine ym_getA 43 C hR dX9_perhapsBegin_40 fl_X9_13 (by decide) rfl rfl ?_
            refine yr_iload_n 44 C dX9_perhapsBegin_43 rfl rfl ?_
            refine ym_aldN 45 C hR dX9_perhapsBegin_44 (by decide) rfl rfl ?_ rfl ?_
            · simp only [mL]; omega
            refine yr_if_ne 61 48 C dX9_perhapsBegin_45 (by decide) rfl (fun c45 => ?_) (fun c45 => ?_)
            · refine yr_vret C dX9_perhapsBegin_61 hr (Nat.le_of_ble_eq_true rfl) (Nat.le_of_ble_eq_true rfl) ?_
              have e6 : m_mayL S g 4 0 = false := by rw [← he]; simp [m_mayL, c36, e4, c45, c9, c13, c36, c45]
              refine ⟨rfl, ?_⟩
              simpa [m_pBegin, c9, c13, e5, e6] using hR
            · refine yr_aload_n 49 C dX9_perhapsBegin_48 rfl rfl rfl ?_
              refine ym_getA 52 C hR dX9_perhapsBegin_49 fl_X9_31 (by decide) rfl rfl ?_
              refine yr_iload_n 53 C dX9_perhapsBegin_52 rfl rfl ?_
              refine ym_aldN 54 C hR dX9_perhapsBegin_53 (by decide) rfl rfl ?_ rfl ?_
              · simp only [mL]; omega
              refine yr_aload_n 55 C dX9_perhapsBegin_54 rfl rfl rfl ?_
              refine ym_get 58 C hR dX9_perhapsBegin_55 fl_X9_133 (by decide) rfl rfl ?_
              refine yr_icmp_le 62 61 C dX9_perhapsBegin_58 (by decide) rfl (fun c58 => ?_) (fun c58 => ?_)
              · refine yr_iinc2 65 C (1) dX9_perhapsBegin_62 rfl (by decide) rfl ?_
                rw [nI_1]
                refine yr_goto 19 C dX9_perhapsBegin_65 (by decide) ?_
                refine yr_forget3 ?_
                exact ih (i + 1) (by omega) (by rw [← he]; first | (simp [m_mayL, c36]; done) | (simp [m_mayL, c36, e4, c45, c58])) h hR
              · refine yr_vret C dX9_perhapsBegin_61 hr (Nat.le_of_ble_eq_true rfl) (Nat.le_of_ble_eq_true rfl) ?_
                have e6 : m_mayL S g 4 0 = false := by rw [← he]; simp [m_mayL, c36, e4, c45, c9, c13, c36, c45, c58]
                refine ⟨rfl, ?_⟩
                simpa [m_pBegin, c9, c13, e5, e6] using hR
      exact loop19 4 0 rfl rfl h hR
    · refine yr_vret C dX9_perhapsBegin_16 hr (Nat.le_of_ble_eq_true rfl) (Nat.le_of_ble_eq_true rfl) ?_
      refine ⟨rfl, ?_⟩
      simpa [m_pBegin, c9, c13] using hR
end M8
