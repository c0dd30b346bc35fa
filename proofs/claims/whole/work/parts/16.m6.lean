/-- nothing but the rows of l has changed -/
def mRw (l : List Nat) (S S' : yS) : Prop := ∀ k, k ∉ l → S' k = S k
theorem mRw_rf {l : List Nat} (S : yS) : mRw l S S := fun _ _ => rfl
theorem mRw_tr {l : List Nat} {S S' S'' : yS} (h : mRw l S S') (h' : mRw l S' S'') : mRw l S S'' := fun k hk => (h' k hk).trans (h k hk)
theorem mRw_mono {l l' : List Nat} {S S' : yS} (h : mRw l S S') (hl : l.all (fun k => l'.contains k) = true) : mRw l' S S' := fun k hk => h k (fun q => hk (by
  have := List.all_eq_true.mp hl k q
  simpa using this))
theorem mRw_set {l : List Nat} (S : yS) {k : Nat} (j : Nat) (v : Int32) (hk : l.contains k = true) : mRw l S (mset S k j v) := fun i hi => mset_ne S v (fun e => hi (by rw [e]; simpa using hk))
theorem mFr_rw {l : List Nat} {S S' : yS} (h : mRw l S S') (hl : l.all mFk = true) : mFr S S' := by
  have q : ∀ k, mFk k = false → S' k = S k := fun k hk => h k (fun z => by
    have := List.all_eq_true.mp hl k z
    rw [hk] at this
    cases this)
  exact ⟨q 0 rfl, q 1 rfl, q 2 rfl, q 4 rfl, q 17 rfl, q 18 rfl, q 20 rfl, q 29 rfl, q 30 rfl, q 31 rfl, q 35 rfl⟩
abbrev lFnd : List Nat := [46, 47, 48]
abbrev lChg : List Nat := [3, 5, 6, 46, 47, 48, 49]
abbrev lEnd : List Nat := [8, 9]
abbrev lCE : List Nat := [3, 5, 6, 8, 9, 46, 47, 48, 49]
theorem m_found_rw (S : yS) (a : Nat) (p : Int32) : mRw lFnd S (m_found S a p) := mRw_tr (mRw_tr (mRw_set S _ _ rfl) (mRw_set _ _ _ rfl)) (mRw_set _ _ _ rfl)
theorem m_gap_rw (S : yS) (p : Nat) : mRw lFnd S (m_gap S p).2 := by
  unfold m_gap
  repeat' split
  all_goals first | exact mRw_rf S | exact m_found_rw S _ _
theorem m_change_rw (S : yS) (p : Nat) (to : Int32) : mRw lChg S (m_change S p to) := by
  refine mRw_tr (S' := m_chg0 S p) (mRw_set S p _ rfl) (mRw_tr (S' := m_chg1 (m_chg0 S p) p) ?_ (mRw_tr (mRw_set _ p to rfl) (mRw_set _ 0 _ rfl)))
  unfold m_chg1
  split
  · exact mRw_tr (mRw_mono (m_gap_rw _ _) rfl) (mRw_set _ _ _ rfl)
  · exact mRw_rf _
theorem m_free_rw (S : yS) (p q : Nat) (u : Int32) : mRw lEnd S (m_free S p q u) := by
  unfold m_free
  split
  · exact mRw_rf S
  · split
    · exact mRw_rf S
    · exact mRw_set S _ _ rfl
theorem m_endL_rw (p : Nat) (u : Int32) : ∀ (j i : Nat) (S : yS), mRw lEnd S (m_endL p u j i S)
  | 0, _, S => mRw_rf S
  | j + 1, i, S => mRw_tr (m_free_rw S p i u) (m_endL_rw p u j (i + 1) _)
theorem m_endsIn_rw (S : yS) (np p : Nat) (u : Int32) : mRw lEnd S (m_endsIn S np p u) := mRw_tr (mRw_set S p u rfl) (m_endL_rw p u np 0 _)
/-! orders -/
def m_ord1 (S : yS) (k : Nat) : yS := mset (mset (mset S 11 (ix (S 24 k)) (S 25 k)) 12 (ix (S 24 k)) (S 26 k)) 13 (ix (S 24 k)) (S 27 k)
def m_ord2 (S : yS) (n k : Nat) : yS := mset (mset (mset (mset (mset S 24 n (S 24 k)) 25 n (S 25 k)) 26 n (S 26 k)) 27 n (S 27 k)) 28 n (S 28 k)
def m_ordL : Nat → Nat → Nat → yS → yS
  | 0, _, n, S => mset S 23 0 (nI n)
  | j + 1, i, n, S => if S 28 i = S 0 0 then m_ordL j (i + 1) n (m_ord1 S i) else m_ordL j (i + 1) (n + 1) (m_ord2 S n i)
def m_doOrders (S : yS) (no : Nat) : yS := m_ordL no 0 0 S
abbrev lOrd : List Nat := [11, 12, 13, 23, 24, 25, 26, 27, 28]
theorem m_ord1_rw (S : yS) (k : Nat) : mRw lOrd S (m_ord1 S k) := mRw_tr (mRw_tr (mRw_set S _ _ rfl) (mRw_set _ _ _ rfl)) (mRw_set _ _ _ rfl)
theorem m_ord2_rw (S : yS) (n k : Nat) : mRw lOrd S (m_ord2 S n k) := mRw_tr (mRw_tr (mRw_tr (mRw_tr (mRw_set S _ _ rfl) (mRw_set _ _ _ rfl)) (mRw_set _ _ _ rfl)) (mRw_set _ _ _ rfl)) (mRw_set _ _ _ rfl)
theorem m_ordL_rw : ∀ (j i n : Nat) (S : yS), mRw lOrd S (m_ordL j i n S)
  | 0, _, n, S => mRw_set S _ _ rfl
  | j + 1, i, n, S => by
    unfold m_ordL
    split
    · exact mRw_tr (m_ord1_rw S i) (m_ordL_rw j (i + 1) n _)
    · exact mRw_tr (m_ord2_rw S n i) (m_ordL_rw j (i + 1) (n + 1) _)
theorem m_ord1_at (S : yS) (k : Nat) {q : Nat} (h : 14 ≤ q) : m_ord1 S k q = S q := by
  unfold m_ord1
  rw [mset_ne _ _ (by omega), mset_ne _ _ (by omega), mset_ne _ _ (by omega)]
theorem m_ord2_24 (S : yS) {n k i : Nat} (h : i ≠ n) : m_ord2 S n k 24 i = S 24 i := by
  unfold m_ord2
  rw [mset_ne _ _ (by decide), mset_ne _ _ (by decide), mset_ne _ _ (by decide), mset_ne _ _ (by decide), mset_at, if_neg h]
/-! reading -/
theorem m_readAt_rw (S : yS) (p : Nat) : mRw lFnd S (m_readAt S p).2 := by
  unfold m_readAt
  repeat' split
  all_goals first | exact mRw_rf S | exact m_found_rw S _ _
abbrev lBod : List Nat := [46, 47, 48, 50]
theorem m_tr_rw {l : List Nat} (h : l.contains 50 = true) (S : yS) (v : Int32) : mRw l S (m_tr S v) := mRw_set S 0 _ h
theorem m_doesAsk_rw (S : yS) (p : Nat) : mRw lBod S (m_doesAsk S p).2 := by
  unfold m_doesAsk m_asks
  repeat' split
  all_goals first | exact m_tr_rw rfl S _ | exact mRw_tr (m_tr_rw rfl S _) (m_tr_rw rfl _ _) | exact mRw_mono (m_readAt_rw S p) rfl
theorem m_doesHold_rw (S : yS) (p : Nat) : mRw lBod S (m_doesHold S p).2 := by
  unfold m_doesHold m_holdK
  repeat' split
  all_goals first | exact m_tr_rw rfl S _ | exact mRw_mono (m_readAt_rw S p) rfl
def m_rd (S : yS) (p : Nat) : yS := if S 3 p = 1 then mset (m_doesHold S p).2 15 p (bI (m_doesHold S p).1) else if 0 ≤ S 10 p then S else if S 2 p = 4 then S else if (m_doesAsk S p).1 then mset (m_doesAsk S p).2 10 p ((m_doesAsk S p).2 0 0) else (m_doesAsk S p).2
abbrev lRd : List Nat := [10, 15, 46, 47, 48, 50]
theorem m_rd_rw (S : yS) (p : Nat) : mRw lRd S (m_rd S p) := by
  unfold m_rd
  repeat' split
  all_goals first | exact mRw_rf S | exact mRw_tr (mRw_mono (m_doesHold_rw S p) rfl) (mRw_set _ _ _ rfl) | exact mRw_tr (mRw_mono (m_doesAsk_rw S p) rfl) (mRw_set _ _ _ rfl) | exact mRw_mono (m_doesAsk_rw S p) rfl
def m_rdL : Nat → Nat → yS → yS
  | 0, _, S => S
  | j + 1, i, S => m_rdL j (i + 1) (m_rd S i)
theorem m_rdL_rw : ∀ (j i : Nat) (S : yS), mRw lRd S (m_rdL j i S)
  | 0, _, S => mRw_rf S
  | j + 1, i, S => mRw_tr (m_rd_rw S i) (m_rdL_rw j (i + 1) _)
def m_diff (S : yS) (k : Nat) : Bool := !decide (S 20 (ix (S 30 k)) ≤ S 0 0) && (!decide (S 20 (ix (S 31 k)) ≤ S 0 0) && !(decide (S 21 (200 * ix (S 30 k) + ix (S 0 0)) ≤ 0) == decide (S 21 (200 * ix (S 31 k) + ix (S 0 0)) ≤ 0)))
def m_pr (S : yS) (k : Nat) : yS := mset S 33 k (if m_diff S k then S 33 k + 1 else 0)
def m_prL : Nat → Nat → yS → yS
  | 0, _, S => S
  | j + 1, i, S => m_prL j (i + 1) (m_pr S i)
theorem m_prL_rw : ∀ (j i : Nat) (S : yS), mRw [33] S (m_prL j i S)
  | 0, _, S => mRw_rf S
  | j + 1, i, S => mRw_tr (mRw_set S _ _ rfl) (m_prL_rw j (i + 1) _)
def m_readAll (S : yS) (np nr : Nat) : yS := m_prL nr 0 (m_rdL np 0 S)
abbrev lRA : List Nat := [10, 15, 33, 46, 47, 48, 50]
theorem m_readAll_rw (S : yS) (np nr : Nat) : mRw lRA S (m_readAll S np nr) := mRw_tr (mRw_mono (m_rdL_rw np 0 S) rfl) (mRw_mono (m_prL_rw nr 0 _) rfl)
/-! faults -/
def m_litL (S : yS) : Nat → Nat → Bool
  | 0, _ => false
  | j + 1, i => if S 14 i = 0 then m_litL S j (i + 1) else if S 3 i = 1 ∨ S 3 i = 2 then true else m_litL S j (i + 1)
def m_brkL (S : yS) : Nat → Nat → Bool
  | 0, _ => false
  | j + 1, i => if S 33 i < S 32 i then m_brkL S j (i + 1) else true
def m_fault (S : yS) (np nr : Nat) : Int32 := if m_litL S np 0 then 1 else if m_brkL S nr 0 then 2 else if S 40 0 = 0 then 0 else 3
def m_mf1 (S : yS) (v : Int32) : yS := mset (mset (mset (mset (mset S 45 0 (S 45 0 + 1)) 41 0 v) 42 0 (S 0 0)) 43 0 (S 45 0 + 1)) 44 0 1
def m_mfS (np : Nat) (S : yS) (i : Nat) : yS := if S 3 i = 1 ∨ S 3 i = 2 then m_endsIn (m_change S i 0) np i (m_change S i 0 0 0) else S
def m_mfL (np : Nat) : Nat → Nat → yS → yS
  | 0, _, S => S
  | j + 1, i, S => m_mfL np j (i + 1) (m_mfS np S i)
def m_mf2 (S : yS) : yS := mset (mset (mset S 34 0 (-5)) 39 0 (-5)) 40 0 0
def m_clrL : Nat → Nat → yS → yS
  | 0, _, S => S
  | j + 1, i, S => m_clrL j (i + 1) (mset S 33 i 0)
def m_meet (S : yS) (v : Int32) (np nr : Nat) : yS := m_clrL nr 0 (m_mf2 (m_mfL np np 0 (m_mf1 S v)))
theorem m_mfS_rw (np : Nat) (S : yS) (i : Nat) : mRw lCE S (m_mfS np S i) := by
  unfold m_mfS
  split
  · exact mRw_tr (mRw_mono (m_change_rw S i 0) rfl) (mRw_mono (m_endsIn_rw _ np i _) rfl)
  · exact mRw_rf S
theorem m_mfL_rw (np : Nat) : ∀ (j i : Nat) (S : yS), mRw lCE S (m_mfL np j i S)
  | 0, _, S => mRw_rf S
  | j + 1, i, S => mRw_tr (m_mfS_rw np S i) (m_mfL_rw np j (i + 1) _)
theorem m_clrL_rw : ∀ (j i : Nat) (S : yS), mRw [33] S (m_clrL j i S)
  | 0, _, S => mRw_rf S
  | j + 1, i, S => mRw_tr (mRw_set S _ _ rfl) (m_clrL_rw j (i + 1) _)
theorem m_mf1_rw (S : yS) (v : Int32) : mRw [41, 42, 43, 44, 45] S (m_mf1 S v) := mRw_tr (mRw_tr (mRw_tr (mRw_tr (mRw_set S _ _ rfl) (mRw_set _ _ _ rfl)) (mRw_set _ _ _ rfl)) (mRw_set _ _ _ rfl)) (mRw_set _ _ _ rfl)
theorem m_mf2_rw (S : yS) : mRw [34, 39, 40] S (m_mf2 S) := mRw_tr (mRw_tr (mRw_set S _ _ rfl) (mRw_set _ _ _ rfl)) (mRw_set _ _ _ rfl)
abbrev lMeet : List Nat := [3, 5, 6, 8, 9, 33, 34, 39, 40, 41, 42, 43, 44, 45, 46, 47, 48, 49]
theorem m_meet_rw (S : yS) (v : Int32) (np nr : Nat) : mRw lMeet S (m_meet S v np nr) := mRw_tr (mRw_tr (mRw_tr (mRw_mono (m_mf1_rw S v) rfl) (mRw_mono (m_mfL_rw np np 0 _) rfl)) (mRw_mono (m_mf2_rw _) rfl)) (mRw_mono (m_clrL_rw nr 0 _) rfl)
section M6
variable {Z : (Nat → Prop) → State → Prop} {D : va_G} {dA : Nat → ClassId} {ad : Nat → Nat} {m0 : Nat} {S : yS} {np ns nd no nr t : Nat}
set_option maxHeartbeats 4000000 in
set_option maxRecDepth 100000 in
theorem mc_doOrders (hZ : yZok D dA Z)  (hB : mB S np ns nd nr t) (hn : S 23 0 = nI no ∧ no ≤ 16) (ho : ∀ k, k < no → ∃ p, p < np ∧ S 24 k = nI p) (h : yH) (hR : yMR dA ad m0 (S) h) : yM Z D yX9_doOrders cX9_doOrders 4 none 0 0 0 [.ref m0] h (fun r h' => r = none ∧ yMR dA ad m0 (m_doOrders S no) h') := by
  refine yM_of hZ (by decide) rfl (Nat.le_of_ble_eq_true rfl) ?_
  intro p l e s m args below meth c A C hr hin
  show yW p l e (yR 0 0 0) s m args below meth c 4 D A 0 0 _ 0 [some (.ref m0), none, none, none] [] h
  refine yr_iconst 1 C (0) dX9_doOrders_0 rfl rfl ?_
  refine yr_istore1 2 C dX9_doOrders_1 (by decide) rfl ?_
  refine yr_iconst 3 C (0) dX9_doOrders_2 rfl rfl ?_
  refine yr_istore2 4 C dX9_doOrders_3 (by decide) rfl ?_
  have loop4 : ∀ (j i : Nat) (n : Nat) (X : yS), i + j = no → mB X np ns nd nr t → X 23 0 = nI no → n ≤ i → (∀ k, i ≤ k → k < no → ∃ p, p < np ∧ X 24 k = nI p) → m_ordL j i n X = m_doOrders S no → ∀ h : yH, yMR dA ad m0 (X) h → yW p l e (yR 0 0 0) s m args below meth c 4 D A 0 0 (yF D A (fun r h' => r = none ∧ yMR dA ad m0 (m_doOrders S no) h') below args s 0 0) 4 [some (.ref m0), some (.int (nI n)), some (.int (nI i)), none] [] h := by
    intro j
    induction j with
    | zero =>
      intro i n X hij hX hn1 hni hox he h hR
      refine yr_iload_n 5 C dX9_doOrders_4 rfl rfl ?_
      refine yr_aload_n 6 C dX9_doOrders_5 rfl rfl rfl ?_
      refine ym_get 9 C hR dX9_doOrders_6 fl_X9_150 (by decide) rfl rfl ?_
      rw [hn1]
      refine yr_icmp_ge 140 12 C dX9_doOrders_9 (by decide) rfl (fun c9 => ?_) (fun c9 => ?_)
      rotate_left
      · exact absurd (nI_le (by omega) (by omega)) c9
      refine yr_aload_n 141 C dX9_doOrders_140 rfl rfl rfl ?_
      refine yr_iload_n 142 C dX9_doOrders_141 rfl rfl ?_
      refine ym_put 145 C hR dX9_doOrders_142 fp_X9_150 (by decide) rfl rfl (fun h hR => ?_)
      refine yr_vret C dX9_doOrders_145 hr (Nat.le_of_ble_eq_true rfl) (Nat.le_of_ble_eq_true rfl) ?_
      exact ⟨rfl, by rw [← he]; exact hR⟩
    | succ j ih =>
      intro i n X hij hX hn1 hni hox he h hR
      have x0 : X 1 0 = nI np ∧ np ≤ 8 := hX 0
      have x3 : X 0 0 = nI t ∧ t < 2 ^ 20 ∧ nd ≤ 12 := hX 3
      obtain ⟨z, hz, ez⟩ := hox i (Nat.le_refl i) (by omega)
      have e4 : ix (X 24 i) = z := by rw [ez]; exact ix_nI (by omega)
      refine yr_iload_n 5 C dX9_doOrders_4 rfl rfl ?_
      refine yr_aload_n 6 C dX9_doOrders_5 rfl rfl rfl ?_
      refine ym_get 9 C hR dX9_doOrders_6 fl_X9_150 (by decide) rfl rfl ?_
      rw [hn1]
      refine yr_icmp_ge 140 12 C dX9_doOrders_9 (by decide) rfl (fun c9 => ?_) (fun c9 => ?_)
      · exact absurd c9 (nI_ge (by omega) (by omega))
      refine yr_aload_n 13 C dX9_doOrders_12 rfl rfl rfl ?_
      refine ym_getA 16 C hR dX9_doOrders_13 fl_X9_80 (by decide) rfl rfl ?_
      refine yr_iload_n 17 C dX9_doOrders_16 rfl rfl ?_
      refine ym_aldN 18 C hR dX9_doOrders_17 (by decide) rfl rfl ?_ rfl ?_
      · simp only [mL]; omega
      refine yr_aload_n 19 C dX9_doOrders_18 rfl rfl rfl ?_
      refine ym_get 22 C hR dX9_doOrders_19 fl_X9_133 (by decide) rfl rfl ?_
      refine yr_icmp_ne 71 25 C dX9_doOrders_22 (by decide) rfl (fun c22 => ?_) (fun c22 => ?_)
      · refine yr_aload_n 72 C dX9_doOrders_71 rfl rfl rfl ?_
        refine ym_getA 75 C hR dX9_doOrders_72 fl_X9_68 (by decide) rfl rfl ?_
        refine yr_iload_n 76 C dX9_doOrders_75 rfl rfl ?_
        refine yr_aload_n 77 C dX9_doOrders_76 rfl rfl rfl ?_
        refine ym_getA 80 C hR dX9_doOrders_77 fl_X9_68 (by decide) rfl rfl ?_
        refine yr_iload_n 81 C dX9_doOrders_80 rfl rfl ?_
        refine ym_aldN 82 C hR dX9_doOrders_81 (by decide) rfl rfl ?_ rfl ?_
        · simp only [mL]; omega
        refine ym_astN 83 C hR dX9_doOrders_82 (by decide) rfl rfl ?_ rfl (fun h hR => ?_)
        · simp only [mL]; omega
        refine yr_aload_n 84 C dX9_doOrders_83 rfl rfl rfl ?_
        refine ym_getA 87 C hR dX9_doOrders_84 fl_X9_71 (by decide) rfl rfl ?_
        refine yr_iload_n 88 C dX9_doOrders_87 rfl rfl ?_
        refine yr_aload_n 89 C dX9_doOrders_88 rfl rfl rfl ?_
        refine ym_getA 92 C hR dX9_doOrders_89 fl_X9_71 (by decide) rfl rfl ?_
        refine yr_iload_n 93 C dX9_doOrders_92 rfl rfl ?_
        refine ym_aldN 94 C hR dX9_doOrders_93 (by decide) rfl rfl ?_ rfl ?_
        · simp only [mL]; omega
        refine ym_astN 95 C hR dX9_doOrders_94 (by decide) rfl rfl ?_ rfl (fun h hR => ?_)
        · simp only [mL]; omega
        refine yr_aload_n 96 C dX9_doOrders_95 rfl rfl rfl ?_
        refine ym_getA 99 C hR dX9_doOrders_96 fl_X9_74 (by decide) rfl rfl ?_
        refine yr_iload_n 100 C dX9_doOrders_99 rfl rfl ?_
        refine yr_aload_n 101 C dX9_doOrders_100 rfl rfl rfl ?_
        refine ym_getA 104 C hR dX9_doOrders_101 fl_X9_74 (by decide) rfl rfl ?_
        refine yr_iload_n 105 C dX9_doOrders_104 rfl rfl ?_
        refine ym_aldN 106 C hR dX9_doOrders_105 (by decide) rfl rfl ?_ rfl ?_
        · simp only [mL]; omega
        refine ym_astN 107 C hR dX9_doOrders_106 (by decide) rfl rfl ?_ rfl (fun h hR => ?_)
        · simp only [mL]; omega
        refine yr_aload_n 108 C dX9_doOrders_107 rfl rfl rfl ?_
        refine ym_getA 111 C hR dX9_doOrders_108 fl_X9_77 (by decide) rfl rfl ?_
        refine yr_iload_n 112 C dX9_doOrders_111 rfl rfl ?_
        refine yr_aload_n 113 C dX9_doOrders_112 rfl rfl rfl ?_
        refine ym_getA 116 C hR dX9_doOrders_113 fl_X9_77 (by decide) rfl rfl ?_
        refine yr_iload_n 117 C dX9_doOrders_116 rfl rfl ?_
        refine ym_aldN 118 C hR dX9_doOrders_117 (by decide) rfl rfl ?_ rfl ?_
        · simp only [mL]; omega
        refine ym_astN 119 C hR dX9_doOrders_118 (by decide) rfl rfl ?_ rfl (fun h hR => ?_)
        · simp only [mL]; omega
        refine yr_aload_n 120 C dX9_doOrders_119 rfl rfl rfl ?_
        refine ym_getA 123 C hR dX9_doOrders_120 fl_X9_80 (by decide) rfl rfl ?_
        refine yr_iload_n 124 C dX9_doOrders_123 rfl rfl ?_
        refine yr_aload_n 125 C dX9_doOrders_124 rfl rfl rfl ?_
        refine ym_getA 128 C hR dX9_doOrders_125 fl_X9_80 (by decide) rfl rfl ?_
        refine yr_iload_n 129 C dX9_doOrders_128 rfl rfl ?_
        refine ym_aldN 130 C hR dX9_doOrders_129 (by decide) rfl rfl ?_ rfl ?_
        · simp only [mL]; omega
        refine ym_astN 131 C hR dX9_doOrders_130 (by decide) rfl rfl ?_ rfl (fun h hR => ?_)
        · simp only [mL]; omega
        refine yr_iinc1 134 C (1) dX9_doOrders_131 rfl (by decide) rfl ?_
        try rw [nI_1]
        refine yr_iinc2 137 C (1) dX9_doOrders_134 rfl (by decide) rfl ?_
        rw [nI_1]
        refine yr_goto 4 C dX9_doOrders_137 (by decide) ?_
        refine yr_forget3 ?_
        first
          | exact ih (i + 1) n (m_ord1 X i) (by omega) (mB_fr hX (mFr_rw (m_ord1_rw X i) rfl)) (by rw [m_ord1_at X i (by decide)]; exact hn1) (by omega) (fun k h1 h2 => by rw [m_ord1_at X i (by decide)]; exact hox k (by omega) h2) (by rw [← he]; simp [m_ordL, c22]) h (by simpa [m_ord1, mset_ne, e4] using hR)
          | exact ih (i + 1) (n + 1) (m_ord2 X n i) (by omega) (mB_fr hX (mFr_rw (m_ord2_rw X n i) rfl)) (by unfold m_ord2; rw [mset_ne _ _ (by decide), mset_ne _ _ (by decide), mset_ne _ _ (by decide), mset_ne _ _ (by decide), mset_ne _ _ (by decide)]; exact hn1) (by omega) (fun k h1 h2 => by rw [m_ord2_24 X (show k ≠ n by omega)]; exact hox k (by omega) h2) (by rw [← he]; simp [m_ordL, c22]) h (by simpa [m_ord2, mset_ne] using hR)
      · refine yr_aload_n 26 C dX9_doOrders_25 rfl rfl rfl ?_
        refine ym_getA 29 C hR dX9_doOrders_26 fl_X9_68 (by decide) rfl rfl ?_
        refine yr_iload_n 30 C dX9_doOrders_29 rfl rfl ?_
        refine ym_aldN 31 C hR dX9_doOrders_30 (by decide) rfl rfl ?_ rfl ?_
        · simp only [mL]; omega
        rw [ez]
        refine yr_istore3 32 C dX9_doOrders_31 (by decide) rfl ?_
        refine yr_aload_n 33 C dX9_doOrders_32 rfl rfl rfl ?_
        refine ym_getA 36 C hR dX9_doOrders_33 fl_X9_37 (by decide) rfl rfl ?_
        refine yr_iload_n 37 C dX9_doOrders_36 rfl rfl ?_
        refine yr_aload_n 38 C dX9_doOrders_37 rfl rfl rfl ?_
        refine ym_getA 41 C hR dX9_doOrders_38 fl_X9_71 (by decide) rfl rfl ?_
        refine yr_iload_n 42 C dX9_doOrders_41 rfl rfl ?_
        refine ym_aldN 43 C hR dX9_doOrders_42 (by decide) rfl rfl ?_ rfl ?_
        · simp only [mL]; omega
        refine ym_astN 44 C hR dX9_doOrders_43 (by decide) rfl rfl ?_ rfl (fun h hR => ?_)
        · simp only [mL]; omega
        refine yr_aload_n 45 C dX9_doOrders_44 rfl rfl rfl ?_
        refine ym_getA 48 C hR dX9_doOrders_45 fl_X9_40 (by decide) rfl rfl ?_
        refine yr_iload_n 49 C dX9_doOrders_48 rfl rfl ?_
        refine yr_aload_n 50 C dX9_doOrders_49 rfl rfl rfl ?_
        refine ym_getA 53 C hR dX9_doOrders_50 fl_X9_74 (by decide) rfl rfl ?_
        refine yr_iload_n 54 C dX9_doOrders_53 rfl rfl ?_
        refine ym_aldN 55 C hR dX9_doOrders_54 (by decide) rfl rfl ?_ rfl ?_
        · simp only [mL]; omega
        refine ym_astN 56 C hR dX9_doOrders_55 (by decide) rfl rfl ?_ rfl (fun h hR => ?_)
        · simp only [mL]; omega
        refine yr_aload_n 57 C dX9_doOrders_56 rfl rfl rfl ?_
        refine ym_getA 60 C hR dX9_doOrders_57 fl_X9_43 (by decide) rfl rfl ?_
        refine yr_iload_n 61 C dX9_doOrders_60 rfl rfl ?_
        refine yr_aload_n 62 C dX9_doOrders_61 rfl rfl rfl ?_
        refine ym_getA 65 C hR dX9_doOrders_62 fl_X9_77 (by decide) rfl rfl ?_
        refine yr_iload_n 66 C dX9_doOrders_65 rfl rfl ?_
        refine ym_aldN 67 C hR dX9_doOrders_66 (by decide) rfl rfl ?_ rfl ?_
        · simp only [mL]; omega
        refine ym_astN 68 C hR dX9_doOrders_67 (by decide) rfl rfl ?_ rfl (fun h hR => ?_)
        · simp only [mL]; omega
        refine yr_goto 134 C dX9_doOrders_68 (by decide) ?_
        try rw [nI_1]
        refine yr_iinc2 137 C (1) dX9_doOrders_134 rfl (by decide) rfl ?_
        rw [nI_1]
        refine yr_goto 4 C dX9_doOrders_137 (by decide) ?_
        refine yr_forget3 ?_
        first
          | exact ih (i + 1) n (m_ord1 X i) (by omega) (mB_fr hX (mFr_rw (m_ord1_rw X i) rfl)) (by rw [m_ord1_at X i (by decide)]; exact hn1) (by omega) (fun k h1 h2 => by rw [m_ord1_at X i (by decide)]; exact hox k (by omega) h2) (by rw [← he]; simp [m_ordL, c22]) h (by simpa [m_ord1, mset_ne, e4] using hR)
          | exact ih (i + 1) (n + 1) (m_ord2 X n i) (by omega) (mB_fr hX (mFr_rw (m_ord2_rw X n i) rfl)) (by unfold m_ord2; rw [mset_ne _ _ (by decide), mset_ne _ _ (by decide), mset_ne _ _ (by decide), mset_ne _ _ (by decide), mset_ne _ _ (by decide)]; exact hn1) (by omega) (fun k h1 h2 => by rw [m_ord2_24 X (show k ≠ n by omega)]; exact hox k (by omega) h2) (by rw [← he]; simp [m_ordL, c22]) h (by simpa [m_ord2, mset_ne] using hR)
  exact loop4 no 0 0 S (by omega) hB hn.1 (Nat.le_refl 0) (fun k _ hk => ho k hk) rfl h hR
end M6
