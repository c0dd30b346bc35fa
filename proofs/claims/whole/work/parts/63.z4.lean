theorem law_le {L n : Nat} (hL : L ≤ 3072) (hn : n ≤ 512) (h : ¬ nI L - 6 < nI (6 * n)) : 6 * n + 6 ≤ L := by
  rcases Nat.lt_or_ge L 6 with z | z
  · have q : nI L - 6 < 0 := pk_sneg (b := 6) (by decide) z
    exact absurd (Int32.lt_of_lt_of_le q (nI_pos' (by omega))) h
  · rcases Nat.lt_or_ge (L - 6) (6 * n) with y | y
    · have e : nI L - 6 = nI (L - 6) := pk_sub (b := 6) z
      rw [e] at h
      exact absurd (nI_lt y (by omega)) h
    · omega
theorem XI_le {dA : Nat → ClassId} {t0 : Nat} {S : yS} {x0 T T' : Nat} {h : yH} (hX : XI dA t0 S x0 T h) (hT : T ≤ T') : XI dA t0 S x0 T' h := by
  obtain ⟨mc, cap, B, N, t, e, R, I, le⟩ := hX
  exact ⟨mc, cap, B, N, t, e, R, I, Nat.le_trans le hT⟩
set_option maxHeartbeats 4000000 in
set_option maxRecDepth 100000 in
theorem law_loop {p : Program} {l : Launch} {e : Env} {s : State} {m : MethodId} {below : List Frame} {meth : Method} {c : Code} {D : va_G} {dA : Nat → ClassId} {t0 mi b L x0 m0 : Nat} {xs : Nat → Int32} {ad : Nat → Nat} (C : yC (yZ t0 mi D dA) D dA p s m #[Value.ref b] meth c cL_law 4 RL (fun q : Nat => s.heap.size ≤ q)) (hr : meth.sig.returnType = ret) (hXs : va_X b L xs s s.heap) (hbl : b < s.heap.size) (hL : L ≤ 3072) : ∀ (j n : Nat) (S : yS) (hx hm : yH), n ≤ 512 → L < 6 * (n + j) → XI dA t0 S x0 (4 * n) hx → yMR dA ad m0 S hm → apart hx hm → yW p l e room_1 s m #[Value.ref b] below meth c 4 D (fun q : Nat => s.heap.size ≤ q) (100 + 10 * n) (10000 + 1000 * n) (lw_Z below #[Value.ref b] s) 18 [some (.ref b), some (.ref x0), some (.ref m0), some (.int (nI (6 * n)))] [] (jn hx hm) := by
  have hbA : ¬ (fun q : Nat => s.heap.size ≤ q) b := Nat.not_le.mpr hbl
  intro j
  induction j with
  | zero =>
    intro n S hx hm hn hj hX hM ap
    refine yr_iload_n 19 C dL_law_18 rfl rfl ?_
    refine yr_aload_n 20 C dL_law_19 rfl rfl rfl ?_
    refine yr_slen 21 C hXs hbl hbA dL_law_20 rfl ?_
    refine yr_bipush 23 C (6) dL_law_21 rfl rfl ?_
    refine yr_isub 24 C dL_law_23 rfl ?_
    refine yr_icmp_gt 885 27 C dL_law_24 (by decide) rfl (fun c24 => ?_) (fun c24 => ?_)
    · refine yr_iconst 886 C (1) dL_law_885 rfl rfl ?_
      intro H locs ls a1 b1 w
      refine va_forget (fun q hq => w.2.2 q hq) ?_
      refine W.widen (k := room_1.cells) (n := room_1.slots) (Nat.le_trans (show 100 + 10 * n ≤ 500000 by omega) rl_c) (Nat.le_trans (show 10000 + 1000 * n ≤ 7000000 by omega) rl_s) ?_
      exact lw_ret C.1 C.2.1 hr C.2.2.2.2.2.2.1 dL_law_886
    · have := law_le hL hn c24
      omega
  | succ j ih =>
    intro n S hx hm hn hj hX hM ap
    refine yr_iload_n 19 C dL_law_18 rfl rfl ?_
    refine yr_aload_n 20 C dL_law_19 rfl rfl rfl ?_
    refine yr_slen 21 C hXs hbl hbA dL_law_20 rfl ?_
    refine yr_bipush 23 C (6) dL_law_21 rfl rfl ?_
    refine yr_isub 24 C dL_law_23 rfl ?_
    refine yr_icmp_gt 885 27 C dL_law_24 (by decide) rfl (fun c24 => ?_) (fun c24 => ?_)
    · refine yr_iconst 886 C (1) dL_law_885 rfl rfl ?_
      intro H locs ls a1 b1 w
      refine va_forget (fun q hq => w.2.2 q hq) ?_
      refine W.widen (k := room_1.cells) (n := room_1.slots) (Nat.le_trans (show 100 + 10 * n ≤ 500000 by omega) rl_c) (Nat.le_trans (show 10000 + 1000 * n ≤ 7000000 by omega) rl_s) ?_
      exact lw_ret C.1 C.2.1 hr C.2.2.2.2.2.2.1 dL_law_886
    · have hn6 := law_le hL hn c24
      have tail : ∀ (S2 : yS) (hx2 hm2 : yH), XI dA t0 S2 x0 (4 * n + 4) hx2 → yMR dA ad m0 S2 hm2 → apart hx2 hm2 → yW p l e room_1 s m #[Value.ref b] below meth c 4 D (fun q : Nat => s.heap.size ≤ q) (100 + 10 * n + 10) (10000 + 1000 * n + 1000) (lw_Z below #[Value.ref b] s) 879 [some (.ref b), some (.ref x0), some (.ref m0), some (.int (nI (6 * n)))] [] (jn hx2 hm2) := by
        intro S2 hx2 hm2 hX2 hM2 ap2
        refine yr_iinc3 882 C (6) dL_law_879 rfl (by decide) rfl ?_
        refine yr_goto 18 C dL_law_882 (by decide) ?_
        rw [show nI (6 * n) + 6 = nI (6 * (n + 1)) from nI_add (6 * n) 6]
        exact yr_widen (by omega) (by omega) (ih (n + 1) S2 hx2 hm2 (by omega) (by omega) hX2 hM2 ap2)
      refine yr_aload_n 28 C dL_law_27 rfl rfl rfl ?_
      refine yr_iload_n 29 C dL_law_28 rfl rfl ?_
      refine yr_sld 30 C hXs hbl hbA (show 6 * n < L by omega) (by omega) dL_law_29 rfl ?_
      refine yr_bipush 32 C (31) dL_law_30 rfl rfl ?_
      refine yr_iand 33 C dL_law_32 rfl ?_
      generalize xs (6 * n) &&& 31 = op
      by_cases z0 : op = 0
      · rw [z0]
        refine yr_tabIn (off := 115) 148 C dL_law_33 (by decide) (by decide) rfl (by decide) ?_
        exact law_0 C hXs hbl hbA hL hn6 (by omega) (by omega) (by omega) hX hM ap tail
      by_cases z1 : op = 1
      · rw [z1]
        refine yr_tabIn (off := 138) 171 C dL_law_33 (by decide) (by decide) rfl (by decide) ?_
        exact law_1 C hXs hbl hbA hL hn6 (by omega) (by omega) (by omega) hX hM ap tail
      by_cases z2 : op = 2
      · rw [z2]
        refine yr_tabIn (off := 191) 224 C dL_law_33 (by decide) (by decide) rfl (by decide) ?_
        exact law_2 C hXs hbl hbA hL hn6 (by omega) (by omega) (by omega) hX hM ap tail
      by_cases z3 : op = 3
      · rw [z3]
        refine yr_tabIn (off := 244) 277 C dL_law_33 (by decide) (by decide) rfl (by decide) ?_
        exact law_3 C hXs hbl hbA hL hn6 (by omega) (by omega) (by omega) hX hM ap tail
      by_cases z4 : op = 4
      · rw [z4]
        refine yr_tabIn (off := 267) 300 C dL_law_33 (by decide) (by decide) rfl (by decide) ?_
        exact law_4 C hXs hbl hbA hL hn6 (by omega) (by omega) (by omega) hX hM ap tail
      by_cases z5 : op = 5
      · rw [z5]
        refine yr_tabIn (off := 290) 323 C dL_law_33 (by decide) (by decide) rfl (by decide) ?_
        exact law_5 C hXs hbl hbA hL hn6 (by omega) (by omega) (by omega) hX hM ap tail
      by_cases z6 : op = 6
      · rw [z6]
        refine yr_tabIn (off := 333) 366 C dL_law_33 (by decide) (by decide) rfl (by decide) ?_
        exact law_6 C hXs hbl hbA hL hn6 (by omega) (by omega) (by omega) hX hM ap tail
      by_cases z7 : op = 7
      · rw [z7]
        refine yr_tabIn (off := 396) 429 C dL_law_33 (by decide) (by decide) rfl (by decide) ?_
        exact law_7 C hXs hbl hbA hL hn6 (by omega) (by omega) (by omega) hX hM ap tail
      by_cases z8 : op = 8
      · rw [z8]
        refine yr_tabIn (off := 445) 478 C dL_law_33 (by decide) (by decide) rfl (by decide) ?_
        exact law_8 C hXs hbl hbA hL hn6 (by omega) (by omega) (by omega) hX hM ap tail
      by_cases z9 : op = 9
      · rw [z9]
        refine yr_tabIn (off := 488) 521 C dL_law_33 (by decide) (by decide) rfl (by decide) ?_
        exact law_9 C hXs hbl hbA hL hn6 (by omega) (by omega) (by omega) hX hM ap tail
      by_cases z10 : op = 10
      · rw [z10]
        refine yr_tabIn (off := 511) 544 C dL_law_33 (by decide) (by decide) rfl (by decide) ?_
        exact law_10 C hXs hbl hbA hL hn6 (by omega) (by omega) (by omega) hX hM ap tail
      by_cases z11 : op = 11
      · rw [z11]
        refine yr_tabIn (off := 534) 567 C dL_law_33 (by decide) (by decide) rfl (by decide) ?_
        exact law_11 C hXs hbl hbA hL hn6 (by omega) (by omega) (by omega) hX hM ap tail
      by_cases z12 : op = 12
      · rw [z12]
        refine yr_tabIn (off := 557) 590 C dL_law_33 (by decide) (by decide) rfl (by decide) ?_
        exact law_12 C hXs hbl hbA hL hn6 (by omega) (by omega) (by omega) hX hM ap tail
      by_cases z13 : op = 13
      · rw [z13]
        refine yr_tabIn (off := 570) 603 C dL_law_33 (by decide) (by decide) rfl (by decide) ?_
        exact law_13 C hXs hbl hbA hL hn6 (by omega) (by omega) (by omega) hX hM ap tail
      by_cases z14 : op = 14
      · rw [z14]
        refine yr_tabIn (off := 583) 616 C dL_law_33 (by decide) (by decide) rfl (by decide) ?_
        exact law_14 C hXs hbl hbA hL hn6 (by omega) (by omega) (by omega) hX hM ap tail
      by_cases z15 : op = 15
      · rw [z15]
        refine yr_tabIn (off := 606) 639 C dL_law_33 (by decide) (by decide) rfl (by decide) ?_
        exact law_15 C hXs hbl hbA hL hn6 (by omega) (by omega) (by omega) hX hM ap tail
      by_cases z16 : op = 16
      · rw [z16]
        refine yr_tabIn (off := 639) 672 C dL_law_33 (by decide) (by decide) rfl (by decide) ?_
        exact law_16 C hXs hbl hbA hL hn6 (by omega) (by omega) (by omega) hX hM ap tail
      by_cases z17 : op = 17
      · rw [z17]
        refine yr_tabIn (off := 662) 695 C dL_law_33 (by decide) (by decide) rfl (by decide) ?_
        exact law_17 C hXs hbl hbA hL hn6 (by omega) (by omega) (by omega) hX hM ap tail
      by_cases z18 : op = 18
      · rw [z18]
        refine yr_tabIn (off := 695) 728 C dL_law_33 (by decide) (by decide) rfl (by decide) ?_
        exact law_18 C hXs hbl hbA hL hn6 (by omega) (by omega) (by omega) hX hM ap tail
      by_cases z19 : op = 19
      · rw [z19]
        refine yr_tabIn (off := 728) 761 C dL_law_33 (by decide) (by decide) rfl (by decide) ?_
        exact law_19 C hXs hbl hbA hL hn6 (by omega) (by omega) (by omega) hX hM ap tail
      by_cases z20 : op = 20
      · rw [z20]
        refine yr_tabIn (off := 751) 784 C dL_law_33 (by decide) (by decide) rfl (by decide) ?_
        exact law_20 C hXs hbl hbA hL hn6 (by omega) (by omega) (by omega) hX hM ap tail
      by_cases z21 : op = 21
      · rw [z21]
        refine yr_tabIn (off := 764) 797 C dL_law_33 (by decide) (by decide) rfl (by decide) ?_
        exact law_21 C hXs hbl hbA hL hn6 (by omega) (by omega) (by omega) hX hM ap tail
      by_cases z22 : op = 22
      · rw [z22]
        refine yr_tabIn (off := 787) 820 C dL_law_33 (by decide) (by decide) rfl (by decide) ?_
        exact law_22 C hXs hbl hbA hL hn6 (by omega) (by omega) (by omega) hX hM ap tail
      by_cases z23 : op = 23
      · rw [z23]
        refine yr_tabIn (off := 810) 843 C dL_law_33 (by decide) (by decide) rfl (by decide) ?_
        exact law_23 C hXs hbl hbA hL hn6 (by omega) (by omega) (by omega) hX hM ap tail
      by_cases z24 : op = 24
      · rw [z24]
        refine yr_tabIn (off := 833) 866 C dL_law_33 (by decide) (by decide) rfl (by decide) ?_
        exact law_24 C hXs hbl hbA hL hn6 (by omega) (by omega) (by omega) hX hM ap tail
      refine yr_tabOut 879 C dL_law_33 (sw_out 24 (by decide) (fun i hi => match i, hi with | 0, _ => z0 | 1, _ => z1 | 2, _ => z2 | 3, _ => z3 | 4, _ => z4 | 5, _ => z5 | 6, _ => z6 | 7, _ => z7 | 8, _ => z8 | 9, _ => z9 | 10, _ => z10 | 11, _ => z11 | 12, _ => z12 | 13, _ => z13 | 14, _ => z14 | 15, _ => z15 | 16, _ => z16 | 17, _ => z17 | 18, _ => z18 | 19, _ => z19 | 20, _ => z20 | 21, _ => z21 | 22, _ => z22 | 23, _ => z23 | 24, _ => z24 | (n + 25), q => absurd q (by omega))) (by decide) ?_
      exact yr_widen (by omega) (by omega) (tail S hx hm (XI_le hX (by omega)) hM ap)
set_option maxHeartbeats 4000000 in
set_option maxRecDepth 100000 in
/-- the start: what the tables and the Statement give -/
theorem law_ctx {p : Program} {s : State} {m : MethodId} {meth : Method} {c : Code} {b L : Nat} {xs : Nat → Int32} (C0 : lw_At p s m meth c b L xs) : ∃ (D : va_G) (dA : Nat → ClassId) (t0 mi : Nat), yC (yZ t0 mi D dA) D dA p s m #[Value.ref b] meth c cL_law 4 RL (fun q : Nat => s.heap.size ≤ q) := by
  obtain ⟨hx, hb, hr, hml, hown, hts, hX, hbl, hlocks, hgv⟩ := C0
  have hw : ∀ (i : Nat) (w : Cond), tables_1[i]? = some w → w.before #[Value.ref b] s = true := fun i w h => hts w (List.mem_append_right _ (List.mem_of_getElem? h))
  have hA : ∀ a : Nat, a < s.heap.size → ¬ (fun q : Nat => s.heap.size ≤ q) a := fun a h => Nat.not_le.mpr h
  obtain ⟨c0, i0, k0⟩ := u_known (C := RJx4a65c) (T := TJx4a65c) (N := 3) (n := 3) hts (fun w h => (List.mem_filter.mp (it_Jx4a65c w h)).1) (hw 29 _ (by decide +kernel))
  obtain ⟨c1, i1, k1⟩ := u_known (C := RX0) (T := TX0) (N := 1) (n := 1) hts (fun w h => (List.mem_filter.mp (it_X0 w h)).1) (hw 101 _ (by decide +kernel))
  obtain ⟨c2, i2, k2⟩ := u_known (C := RX1) (T := TX1) (N := 4) (n := 4) hts (fun w h => (List.mem_filter.mp (it_X1 w h)).1) (hw 387 _ (by decide +kernel))
  obtain ⟨c3, i3, k3⟩ := u_known (C := RX2) (T := TX2) (N := 5) (n := 5) hts (fun w h => (List.mem_filter.mp (it_X2 w h)).1) (hw 74 _ (by decide +kernel))
  obtain ⟨c4, i4, k4⟩ := u_known (C := RX3) (T := TX3) (N := 3) (n := 3) hts (fun w h => (List.mem_filter.mp (it_X3 w h)).1) (hw 55 _ (by decide +kernel))
  obtain ⟨c5, i5, k5⟩ := u_known (C := RX4) (T := TX4) (N := 5) (n := 5) hts (fun w h => (List.mem_filter.mp (it_X4 w h)).1) (hw 439 _ (by decide +kernel))
  obtain ⟨c6, i6, k6⟩ := u_known (C := RX5) (T := TX5) (N := 4) (n := 4) hts (fun w h => (List.mem_filter.mp (it_X5 w h)).1) (hw 470 _ (by decide +kernel))
  obtain ⟨c7, i7, k7⟩ := u_known (C := RX6) (T := TX6) (N := 18) (n := 18) hts (fun w h => (List.mem_filter.mp (it_X6 w h)).1) (hw 169 _ (by decide +kernel))
  obtain ⟨c8, i8, k8⟩ := u_known (C := RX7) (T := TX7) (N := 2) (n := 2) hts (fun w h => (List.mem_filter.mp (it_X7 w h)).1) (hw 350 _ (by decide +kernel))
  obtain ⟨c9, i9, k9⟩ := u_known (C := RX8) (T := TX8) (N := 16) (n := 16) hts (fun w h => (List.mem_filter.mp (it_X8 w h)).1) (hw 21 _ (by decide +kernel))
  obtain ⟨c10, i10, k10⟩ := u_known (C := RX9) (T := TX9) (N := 53) (n := 53) hts (fun w h => (List.mem_filter.mp (it_X9 w h)).1) (hw 791 _ (by decide +kernel))
  obtain ⟨dC, dI, hKc⟩ : ∃ (dC : Nat → ClassId) (dI : Nat → Nat → Nat), ∀ (k : Nat) (q : vw_C), vwCl[k]? = some q → u_Kn s q.1 q.2.1 q.2.2 (dC k) (dI k) := by
    refine ⟨fun k => match k with | 0 => c0 | 1 => c1 | 2 => c2 | 3 => c3 | 4 => c4 | 5 => c5 | 6 => c6 | 7 => c7 | 8 => c8 | 9 => c9 | _ => c10, fun k => match k with | 0 => i0 | 1 => i1 | 2 => i2 | 3 => i3 | 4 => i4 | 5 => i5 | 6 => i6 | 7 => i7 | 8 => i8 | 9 => i9 | _ => i10, ?_⟩
    intro k q hq
    match k, hq with
    | 0, hq => cases hq; exact k0
    | 1, hq => cases hq; exact k1
    | 2, hq => cases hq; exact k2
    | 3, hq => cases hq; exact k3
    | 4, hq => cases hq; exact k4
    | 5, hq => cases hq; exact k5
    | 6, hq => cases hq; exact k6
    | 7, hq => cases hq; exact k7
    | 8, hq => cases hq; exact k8
    | 9, hq => cases hq; exact k9
    | 10, hq => cases hq; exact k10
    | k + 11, hq => simp [vwCl] at hq
  obtain ⟨aI, bI, dI_, fI, gI, hI⟩ := Cond.arrayClass_spec (hw 72 (.arrayClass .int) (by decide +kernel))
  obtain ⟨aB, bB, dB_, fB, gB, hB⟩ := Cond.arrayClass_spec (hw 407 (.arrayClass .byte) (by decide +kernel))
  obtain ⟨aS, bS, dS_, fS, gS, hS⟩ := Cond.arrayClass_spec (hw 408 (.arrayClass .short) (by decide +kernel))
  obtain ⟨aZ, bZ, dZ_, fZ, gZ, hZ⟩ := Cond.arrayClass_spec (hw 956 (.arrayClass .boolean) (by decide +kernel))
  have oP := hw 356 (.arrayOver (.object "CrossingKeeper$Phase")) (by decide +kernel)
  obtain ⟨dP, aP, bP, eP, -, gP, hP, fP⟩ := Cond.arrayOver_spec oP
  have oO := hw 302 (.arrayOver (.object "java/lang/Object")) (by decide +kernel)
  obtain ⟨dO, aO, bO, eO, -, gO, hO, fO⟩ := Cond.arrayOver_spec oO
  obtain ⟨dA, hKa⟩ : ∃ dA : Nat → ClassId, ∀ (k : Nat) (q : ClassId × FieldType), (yT dA)[k]? = some q → ArrOfT s q.1 q.2 ∧ va_RA s q.1 q.2 := by
    refine ⟨fun k => match k with | 0 => aI | 1 => aB | 2 => aS | 3 => aZ | 4 => aP | _ => aO, ?_⟩
    intro k q hq
    match k, hq with
    | 0, hq => cases hq; exact ⟨fun N z => ⟨(fun k h => by cases h), bI, gI, dI_, hI⟩, fI⟩
    | 1, hq => cases hq; exact ⟨fun N z => ⟨(fun k h => by cases h), bB, gB, dB_, hB⟩, fB⟩
    | 2, hq => cases hq; exact ⟨fun N z => ⟨(fun k h => by cases h), bS, gS, dS_, hS⟩, fS⟩
    | 3, hq => cases hq; exact ⟨fun N z => ⟨(fun k h => by cases h), bZ, gZ, dZ_, hZ⟩, fZ⟩
    | 4, hq => cases hq; exact ⟨fun N z => ⟨(fun k h => by cases h), bP, gP, dP, hP⟩, bP, dP, gP, hP, eP, fP⟩
    | 5, hq => cases hq; exact ⟨fun N z => ⟨(fun k h => by cases h), bO, gO, dO, hO⟩, bO, dO, gO, hO, eO, fO⟩
    | k + 6, hq => simp at hq
  have hs := flat_of_before _ hgv
  obtain ⟨t0, ht0, hT0⟩ := va_Tof (N := 0) (f := fun _ => .null) (A := (fun q : Nat => s.heap.size ≤ q)) (by decide) (hs (Cond.arrayOf (.static "java/util/ArrayList" "DEFAULTCAPACITY_EMPTY_ELEMENTDATA" "[Ljava/lang/Object;") (.object "java/lang/Object")) (by decide +kernel)) (va_eqt (hs (Cond.eq (.length (.static "java/util/ArrayList" "DEFAULTCAPACITY_EMPTY_ELEMENTDATA" "[Ljava/lang/Object;")) (.int 0)) (by decide +kernel))) (fun j hj => absurd hj (Nat.not_lt_zero j)) hA
  obtain ⟨mi, hmi⟩ := va_Mi.of (hs (Cond.isRef (.mirror "[Ljava/lang/Object;")) (by decide +kernel))
  have hK : va_K (dC, dI) vwCl (yT dA) s := ⟨hKc, hKa⟩
  exact ⟨(dC, dI), dA, t0, mi, hx, hb, hml, hown, fun w h => hts w (List.mem_filter.mp h).1, hK, hlocks, fun q h => h, ⟨hK, ⟨va_AO.of oP, va_AO.of oO⟩, ⟨va_Nw.of rfl (hw 1173 _ (by decide +kernel)), va_Nw.of rfl (hw 1174 _ (by decide +kernel)), va_Nw.of rfl (hw 1175 _ (by decide +kernel)), va_Nw.of rfl (hw 1176 _ (by decide +kernel)), va_Nw.of rfl (hw 1177 _ (by decide +kernel))⟩, ⟨va_Nw.of rfl (hw 56 (.methodLinkNest RX8 30 yX3_init RX8) (by decide +kernel)), va_Nw.of rfl (hw 75 (.methodLinkNest RX8 37 yX2_init RX8) (by decide +kernel)), va_Nw.of rfl (hw 102 (.methodLinkNest RX8 44 yX0_init RX8) (by decide +kernel))⟩, ⟨va_Zof (hw 41 (.laysStatic "java/util/ArrayList" "DEFAULTCAPACITY_EMPTY_ELEMENTDATA" "[Ljava/lang/Object;") (by decide +kernel)) (hw 4 (.initialized "java/util/ArrayList") (by decide +kernel)) ht0 hA, hT0⟩, hmi, va_Dc.of (hw 1167 (.declares ⟨"java/lang/Object", "getClass", "()Ljava/lang/Class;"⟩) (by decide +kernel))⟩, yZ_ok t0 mi (dC, dI) dA⟩
theorem up_jn {hx : yH} {m0 : Nat} {v : va_E} : va_up hx m0 (some v) = jn (va_up (fun _ => none) m0 (some v)) hx := by
  funext a
  unfold jn va_up
  by_cases c : a = m0
  · rw [if_pos c, if_pos c]
    rfl
  · rw [if_neg c, if_neg c]
    rfl
set_option maxHeartbeats 4000000 in
set_option maxRecDepth 100000 in
theorem law_first {p : Program} {l : Launch} {e : Env} {s : State} {m : MethodId} {below : List Frame} {meth : Method} {c : Code} {D : va_G} {dA : Nat → ClassId} {t0 mi b L : Nat} {xs : Nat → Int32} (C : yC (yZ t0 mi D dA) D dA p s m #[Value.ref b] meth c cL_law 4 RL (fun q : Nat => s.heap.size ≤ q)) (hr : meth.sig.returnType = ret) (hXs : va_X b L xs s s.heap) (hbl : b < s.heap.size) (hL : L ≤ 3072) : yW p l e room_1 s m #[Value.ref b] below meth c 4 D (fun q : Nat => s.heap.size ≤ q) 0 0 (lw_Z below #[Value.ref b] s) 0 [some (.ref b), none, none, none] [] (fun _ => none) := by
  refine yr_new 3 C dL_law_0 nwL_7 (Nat.le_of_ble_eq_true rfl) (Nat.le_of_ble_eq_true rfl) rfl (fun x0 hx0 => ?_)
  refine yr_dup 4 C dL_law_3 rfl rfl ?_
  refine yr_I0u 7 C (xi_keeper x0 _ (va_up_self' _ _ _)) dL_law_4 mt_X8_init rfl mi_X8_init ml_L_9 (Nat.le_of_ble_eq_true rfl) (Nat.le_of_ble_eq_true rfl) (Nat.le_of_ble_eq_true rfl) (Nat.le_of_ble_eq_true rfl) (Nat.le_of_ble_eq_true rfl) rfl (fun hx hX => ?_)
  refine yr_astore1 8 C dL_law_7 rfl (by decide) rfl ?_
  refine yr_new 11 C dL_law_8 nwL_10 (Nat.le_of_ble_eq_true rfl) (Nat.le_of_ble_eq_true rfl) rfl (fun m0 hm0 => ?_)
  refine yr_dup 12 C dL_law_11 rfl rfl ?_
  rw [up_jn]
  have ap0 : apart (va_up (fun _ => none) m0 (some (.inr (10, mFs0)))) hx := fun a u v x y => by
    unfold va_up at x
    by_cases z : a = m0
    · rw [z, hm0] at y
      cases y
    · rw [if_neg z] at x
      cases x
  refine yr_I0u 15 C (yM_frame yZ_anti (mc_init (yZ_ok t0 mi D dA) _ (va_up_self' _ _ _)) ap0) dL_law_12 mt_X9_init rfl mi_X9_init ml_L_12 (Nat.le_of_ble_eq_true rfl) (Nat.le_of_ble_eq_true rfl) (Nat.le_of_ble_eq_true rfl) (Nat.le_of_ble_eq_true rfl) (Nat.le_of_ble_eq_true rfl) rfl (fun h hq => ?_)
  obtain ⟨hm, ⟨ad, hM⟩, ap, rfl⟩ := hq
  rw [jn_comm ap]
  refine yr_astore2 16 C dL_law_15 rfl (by decide) rfl ?_
  refine yr_iconst 17 C (0) dL_law_16 rfl rfl ?_
  refine yr_istore3 18 C dL_law_17 (by decide) rfl ?_
  exact yr_widen (k1 := 100 + 10 * 0) (n1 := 10000 + 1000 * 0) (Nat.le_of_ble_eq_true rfl) (Nat.le_of_ble_eq_true rfl) (law_loop C hr hXs hbl hL (L + 1) 0 mS0 hx hm (by omega) (by omega) hX hM (apart_sy ap))
theorem whole_start {p : Program} {e : Env} {s : State} {m : MethodId} {below : List Frame} {meth : Method} {c : Code} (l : Launch) {b L : Nat} {xs : Nat → Int32} (hL : L ≤ 3072) (C0 : lw_At p s m meth c b L xs) : W p l e room_1 s m #[Value.ref b] below meth c s.heap [] 0 0 (lw_Z below #[Value.ref b] s) (entryFrame m ([Value.ref b] : List Value).toArray 4) := by
  obtain ⟨D, dA, t0, mi, C⟩ := law_ctx C0
  obtain ⟨hx, hb, hr, hml, hown, hts, hX, hbl, hlocks, hgv⟩ := C0
  have hl := lv_entry ([.ref b]) (n := 4) (Nat.le_of_ble_eq_true rfl)
  rw [lg_entry_eq]
  generalize (lg_sl ([.ref b]) ++ List.replicate (4 - (lg_sl ([.ref b])).length) Slot.unset).toArray = ls at hl ⊢
  have hl : lv_has ls 4 [(0, .ref b)] := hl
  have hlv : yd_lv ls 4 [some (.ref b), none, none, none] := by
    refine ⟨[(0, .ref b)], hl, fun i v hi => ?_⟩
    match i, hi with
    | 0, hi => cases hi; exact ⟨List.mem_cons_self, rfl⟩
    | 1, hi => cases hi
    | 2, hi => cases hi
    | 3, hi => cases hi
    | (i + 4), hi => cases hi
  have hat : yd_at D (fun _ => none) (fun q : Nat => s.heap.size ≤ q) s.heap := ⟨[], fun _ => .inr (0, []), fun a u => ⟨(fun h => by cases h), (fun h => by simp at h)⟩, (fun k q h => by simp [va_pl] at h), ⟨(fun i j p q h => by simp [va_pl] at h), (fun k q h => by simp [va_pl] at h)⟩⟩
  exact law_first C hr hX hbl hL s.heap [] ls hlv hat va_S.rf
