section Forget
variable {Z : (Nat → Prop) → State → Prop} {D : va_G} {dA : Nat → ClassId} {p : Program} {l : Launch} {e : Env} {R : Room} {s : State} {m : MethodId} {args : Array Value} {below : List Frame} {meth : Method} {c : Code} {cc : ByteArray} {nL : Nat} {own : String} {A : Nat → Prop} {cells slots : Nat} {Q : State → Prop} {pc : Nat} {lv : List (Option Value)} {st : List Value} {h : yH}
theorem yr_forget1 {b0 x : Option Value} {r : List (Option Value)} (k : yW p l e R s m args below meth c nL D A cells slots Q pc (b0 :: none :: r) (st) (h)) : yW p l e R s m args below meth c nL D A cells slots Q pc (b0 :: x :: r) (st) (h) := fun H locs ls a b w => by
  refine k H locs ls ?_ b w
  obtain ⟨lw, a1, a2⟩ := a
  refine ⟨lw, a1, fun q v hq => a2 q v ?_⟩
  match q, hq with
  | 0, hq => exact hq
  | 1, hq => cases hq
  | (n + 2), hq => exact hq
theorem yr_forget2 {b0 b1 x : Option Value} {r : List (Option Value)} (k : yW p l e R s m args below meth c nL D A cells slots Q pc (b0 :: b1 :: none :: r) (st) (h)) : yW p l e R s m args below meth c nL D A cells slots Q pc (b0 :: b1 :: x :: r) (st) (h) := fun H locs ls a b w => by
  refine k H locs ls ?_ b w
  obtain ⟨lw, a1, a2⟩ := a
  refine ⟨lw, a1, fun q v hq => a2 q v ?_⟩
  match q, hq with
  | 0, hq => exact hq
  | 1, hq => exact hq
  | 2, hq => cases hq
  | (n + 3), hq => exact hq
theorem yr_forget3 {b0 b1 b2 x : Option Value} {r : List (Option Value)} (k : yW p l e R s m args below meth c nL D A cells slots Q pc (b0 :: b1 :: b2 :: none :: r) (st) (h)) : yW p l e R s m args below meth c nL D A cells slots Q pc (b0 :: b1 :: b2 :: x :: r) (st) (h) := fun H locs ls a b w => by
  refine k H locs ls ?_ b w
  obtain ⟨lw, a1, a2⟩ := a
  refine ⟨lw, a1, fun q v hq => a2 q v ?_⟩
  match q, hq with
  | 0, hq => exact hq
  | 1, hq => exact hq
  | 2, hq => exact hq
  | 3, hq => cases hq
  | (n + 4), hq => exact hq
theorem yr_forget4 {b0 b1 b2 b3 x : Option Value} {r : List (Option Value)} (k : yW p l e R s m args below meth c nL D A cells slots Q pc (b0 :: b1 :: b2 :: b3 :: none :: r) (st) (h)) : yW p l e R s m args below meth c nL D A cells slots Q pc (b0 :: b1 :: b2 :: b3 :: x :: r) (st) (h) := fun H locs ls a b w => by
  refine k H locs ls ?_ b w
  obtain ⟨lw, a1, a2⟩ := a
  refine ⟨lw, a1, fun q v hq => a2 q v ?_⟩
  match q, hq with
  | 0, hq => exact hq
  | 1, hq => exact hq
  | 2, hq => exact hq
  | 3, hq => exact hq
  | 4, hq => cases hq
  | (n + 5), hq => exact hq
theorem yr_forget5 {b0 b1 b2 b3 b4 x : Option Value} {r : List (Option Value)} (k : yW p l e R s m args below meth c nL D A cells slots Q pc (b0 :: b1 :: b2 :: b3 :: b4 :: none :: r) (st) (h)) : yW p l e R s m args below meth c nL D A cells slots Q pc (b0 :: b1 :: b2 :: b3 :: b4 :: x :: r) (st) (h) := fun H locs ls a b w => by
  refine k H locs ls ?_ b w
  obtain ⟨lw, a1, a2⟩ := a
  refine ⟨lw, a1, fun q v hq => a2 q v ?_⟩
  match q, hq with
  | 0, hq => exact hq
  | 1, hq => exact hq
  | 2, hq => exact hq
  | 3, hq => exact hq
  | 4, hq => exact hq
  | 5, hq => cases hq
  | (n + 6), hq => exact hq
theorem yr_forget6 {b0 b1 b2 b3 b4 b5 x : Option Value} {r : List (Option Value)} (k : yW p l e R s m args below meth c nL D A cells slots Q pc (b0 :: b1 :: b2 :: b3 :: b4 :: b5 :: none :: r) (st) (h)) : yW p l e R s m args below meth c nL D A cells slots Q pc (b0 :: b1 :: b2 :: b3 :: b4 :: b5 :: x :: r) (st) (h) := fun H locs ls a b w => by
  refine k H locs ls ?_ b w
  obtain ⟨lw, a1, a2⟩ := a
  refine ⟨lw, a1, fun q v hq => a2 q v ?_⟩
  match q, hq with
  | 0, hq => exact hq
  | 1, hq => exact hq
  | 2, hq => exact hq
  | 3, hq => exact hq
  | 4, hq => exact hq
  | 5, hq => exact hq
  | 6, hq => cases hq
  | (n + 7), hq => exact hq
theorem yr_forget7 {b0 b1 b2 b3 b4 b5 b6 x : Option Value} {r : List (Option Value)} (k : yW p l e R s m args below meth c nL D A cells slots Q pc (b0 :: b1 :: b2 :: b3 :: b4 :: b5 :: b6 :: none :: r) (st) (h)) : yW p l e R s m args below meth c nL D A cells slots Q pc (b0 :: b1 :: b2 :: b3 :: b4 :: b5 :: b6 :: x :: r) (st) (h) := fun H locs ls a b w => by
  refine k H locs ls ?_ b w
  obtain ⟨lw, a1, a2⟩ := a
  refine ⟨lw, a1, fun q v hq => a2 q v ?_⟩
  match q, hq with
  | 0, hq => exact hq
  | 1, hq => exact hq
  | 2, hq => exact hq
  | 3, hq => exact hq
  | 4, hq => exact hq
  | 5, hq => exact hq
  | 6, hq => exact hq
  | 7, hq => cases hq
  | (n + 8), hq => exact hq
theorem yr_forget8 {b0 b1 b2 b3 b4 b5 b6 b7 x : Option Value} {r : List (Option Value)} (k : yW p l e R s m args below meth c nL D A cells slots Q pc (b0 :: b1 :: b2 :: b3 :: b4 :: b5 :: b6 :: b7 :: none :: r) (st) (h)) : yW p l e R s m args below meth c nL D A cells slots Q pc (b0 :: b1 :: b2 :: b3 :: b4 :: b5 :: b6 :: b7 :: x :: r) (st) (h) := fun H locs ls a b w => by
  refine k H locs ls ?_ b w
  obtain ⟨lw, a1, a2⟩ := a
  refine ⟨lw, a1, fun q v hq => a2 q v ?_⟩
  match q, hq with
  | 0, hq => exact hq
  | 1, hq => exact hq
  | 2, hq => exact hq
  | 3, hq => exact hq
  | 4, hq => exact hq
  | 5, hq => exact hq
  | 6, hq => exact hq
  | 7, hq => exact hq
  | 8, hq => cases hq
  | (n + 9), hq => exact hq
theorem yr_forget9 {b0 b1 b2 b3 b4 b5 b6 b7 b8 x : Option Value} {r : List (Option Value)} (k : yW p l e R s m args below meth c nL D A cells slots Q pc (b0 :: b1 :: b2 :: b3 :: b4 :: b5 :: b6 :: b7 :: b8 :: none :: r) (st) (h)) : yW p l e R s m args below meth c nL D A cells slots Q pc (b0 :: b1 :: b2 :: b3 :: b4 :: b5 :: b6 :: b7 :: b8 :: x :: r) (st) (h) := fun H locs ls a b w => by
  refine k H locs ls ?_ b w
  obtain ⟨lw, a1, a2⟩ := a
  refine ⟨lw, a1, fun q v hq => a2 q v ?_⟩
  match q, hq with
  | 0, hq => exact hq
  | 1, hq => exact hq
  | 2, hq => exact hq
  | 3, hq => exact hq
  | 4, hq => exact hq
  | 5, hq => exact hq
  | 6, hq => exact hq
  | 7, hq => exact hq
  | 8, hq => exact hq
  | 9, hq => cases hq
  | (n + 10), hq => exact hq
end Forget
def m_leastS (S : yS) (q x : Int32) : Int32 := if q < 0 then x else if S 11 (ix q) ≤ x then x else S 11 (ix q)
def m_leastL (S : yS) (s : Nat) : Nat → Nat → Int32 → Int32
  | 0, _, x => x
  | j + 1, i, x => m_leastL S s j (i + 1) (m_leastS S (S 18 (4 * s + i)) x)
def m_least (S : yS) (s : Nat) : Int32 := m_leastL S s 4 0 0
def m_greatS (S : yS) (q x : Int32) : Int32 := if q < 0 then x else if x ≤ S 12 (ix q) then x else S 12 (ix q)
def m_greatL (S : yS) (s : Nat) : Nat → Nat → Int32 → Int32
  | 0, _, x => x
  | j + 1, i, x => m_greatL S s j (i + 1) (m_greatS S (S 18 (4 * s + i)) x)
def m_great (S : yS) (s : Nat) : Int32 := if m_least S s ≤ m_greatL S s 4 0 1000 then m_greatL S s 4 0 1000 else m_least S s
def m_askS (S : yS) (q x : Int32) : Int32 := if q < 0 then x else if S 10 (ix q) < 0 then x else if x < 0 then S 10 (ix q) else if x ≤ S 10 (ix q) then x else S 10 (ix q)
def m_askL (S : yS) (s : Nat) : Nat → Nat → Int32 → Int32
  | 0, _, x => x
  | j + 1, i, x => m_askL S s j (i + 1) (m_askS S (S 18 (4 * s + i)) x)
def m_asked (S : yS) (s : Nat) : Int32 := m_askL S s 4 0 (-5)
def m_lg (S : yS) : Nat := ix (S 38 0 + 1)
def m_nextL (S : yS) (ns : Nat) : Nat → Nat → Int32 → Int32 → Int32
  | 0, _, f, _ => f
  | j + 1, i, f, g => if m_asked S ((m_lg S + i) % ns) < 0 then m_nextL S ns j (i + 1) f g else if f < 0 then m_nextL S ns j (i + 1) (nI ((m_lg S + i) % ns)) (m_asked S ((m_lg S + i) % ns)) else if g ≤ m_asked S ((m_lg S + i) % ns) then m_nextL S ns j (i + 1) f g else m_nextL S ns j (i + 1) (nI ((m_lg S + i) % ns)) (m_asked S ((m_lg S + i) % ns))
def m_next (S : yS) (ns : Nat) : Int32 := if S 39 0 < 0 then m_nextL S ns ns 0 (-5) 0 else S 39 0
theorem m_lg_eq {S : yS} {ns : Nat} (hn : ns ≤ 6) (h : S 38 0 = -1 ∨ ∃ s, s < ns ∧ S 38 0 = nI s) : ∃ b : Nat, b ≤ ns ∧ m_lg S = b ∧ ∀ i : Nat, S 38 0 + nI (i + 1) = nI (b + i) := by
  rcases h with e | ⟨s, hs, e⟩
  · refine ⟨0, by omega, by unfold m_lg; rw [e]; rfl, fun i => ?_⟩
    rw [e, nI_succ, Nat.zero_add, Int32.add_comm (nI i) 1, ← Int32.add_assoc]
    have : (-1 : Int32) + 1 = 0 := by decide
    rw [this, Int32.zero_add]
  · refine ⟨s + 1, by omega, by unfold m_lg; rw [e, nI_1]; exact ix_nI (by omega), fun i => ?_⟩
    rw [e, nI_add]
    congr 1
    omega
section M5
variable {Z : (Nat → Prop) → State → Prop} {D : va_G} {dA : Nat → ClassId} {ad : Nat → Nat} {m0 : Nat} {S : yS} {np ns nd nr t : Nat}
set_option maxHeartbeats 4000000 in
set_option maxRecDepth 100000 in
theorem mc_gapOf (hZ : yZok D dA Z) (a : Nat) (ha : a < np) (hB : mB S np ns nd nr t) (h : yH) (hR : yMR dA ad m0 (S) h) : yM Z D yX9_gapOf cX9_gapOf 5 (some .int) 1 0 0 [.ref m0, .int (nI a)] h (fun r h' => r = some (.int (m_gap S a).1) ∧ yMR dA ad m0 ((m_gap S a).2) h') := by
  refine yM_of hZ (by decide) rfl (Nat.le_of_ble_eq_true rfl) ?_
  intro p l e s m args below meth c A C hr hin
  show yW p l e (yR 1 0 0) s m args below meth c 5 D A 0 0 _ 0 [some (.ref m0), some (.int (nI a)), none, none, none] [] h
  have k0 : S 1 0 = nI np ∧ np ≤ 8 := hB 0
  have k3 : S 0 0 = nI t ∧ t < 2 ^ 20 ∧ nd ≤ 12 := hB 3
  have k5 : cO (S 4 a) nd := (show ∀ p, p < np → cO (S 4 p) nd from hB 5) a ha
  obtain ⟨b, hb, eb⟩ := (show ∃ b, b ≤ t ∧ S 35 0 = nI b from hB 9)
  have et : ix (S 0 0) = t := by rw [k3.1]; exact ix_nI (by omega)
  have ex : ix (S 35 0) = b := by rw [eb]; exact ix_nI (by omega)
  refine yr_aload_n 1 C dX9_gapOf_0 rfl rfl rfl ?_
  refine ym_getA 4 C hR dX9_gapOf_1 fl_X9_7 (by decide) rfl rfl ?_
  refine yr_iload_n 5 C dX9_gapOf_4 rfl rfl ?_
  refine ym_aldN 6 C hR dX9_gapOf_5 (by decide) rfl rfl ?_ rfl ?_
  · simp only [mL]; omega
  refine yr_iconst 7 C (4) dX9_gapOf_6 rfl rfl ?_
  refine yr_icmp_ne 12 10 C dX9_gapOf_7 (by decide) rfl (fun c7 => ?_) (fun c7 => ?_)
  · refine yr_aload_n 13 C dX9_gapOf_12 rfl rfl rfl ?_
    refine ym_getA 16 C hR dX9_gapOf_13 fl_X9_16 (by decide) rfl rfl ?_
    refine yr_iload_n 17 C dX9_gapOf_16 rfl rfl ?_
    refine ym_aldN 18 C hR dX9_gapOf_17 (by decide) rfl rfl ?_ rfl ?_
    · simp only [mL]; omega
    refine yr_istore2 19 C dX9_gapOf_18 (by decide) rfl ?_
    refine yr_iload_n 20 C dX9_gapOf_19 rfl rfl ?_
    refine yr_if_lt 32 23 C dX9_gapOf_20 (by decide) rfl (fun c20 => ?_) (fun c20 => ?_)
    · refine yr_aload_n 33 C dX9_gapOf_32 rfl rfl rfl ?_
      refine yr_iconst 34 C (1) dX9_gapOf_33 rfl rfl ?_
      refine yr_iload_n 35 C dX9_gapOf_34 rfl rfl ?_
      refine yr_V2u 38 C (mc_found hZ _ (by decide) _ _ hR) dX9_gapOf_35 mt_X9_found mv_X9_found ml_X9_169 hR.1 rfl (Nat.le_of_ble_eq_true rfl) (Nat.le_of_ble_eq_true rfl) (Nat.le_of_ble_eq_true rfl) (Nat.le_of_ble_eq_true rfl) (Nat.le_of_ble_eq_true rfl) rfl (fun h hR => ?_)
      refine yr_iconst 39 C (0) dX9_gapOf_38 rfl rfl ?_
      refine yr_iret C dX9_gapOf_39 hr (Nat.le_of_ble_eq_true rfl) (Nat.le_of_ble_eq_true rfl) ?_
      refine ⟨?_, ?_⟩
      · first | (simp [m_gap, c7, c20]; done) | (simp [m_gap, e0, c7, c20]; done)
      · first | (simpa [m_gap, c7, c20] using hR) | (simpa [m_gap, e0, c7, c20] using hR)
    · obtain ⟨d, hd, ed⟩ := cO_lt (by omega) k5 c20
      have e0 : ix (S 4 a) = d := by rw [ed]; exact ix_nI (by omega)
      have k6 : cO (S 20 d) 201 := (show ∀ d, d < nd → cO (S 20 d) 201 from hB 6) d hd
      refine yr_aload_n 24 C dX9_gapOf_23 rfl rfl rfl ?_
      refine ym_getA 27 C hR dX9_gapOf_24 fl_X9_59 (by decide) rfl rfl ?_
      refine yr_iload_n 28 C dX9_gapOf_27 rfl rfl ?_
      rw [ed]
      refine ym_aldN 29 C hR dX9_gapOf_28 (by decide) rfl rfl ?_ rfl ?_
      · simp only [mL]; omega
      refine yr_if_ge 40 32 C dX9_gapOf_29 (by decide) rfl (fun c29 => ?_) (fun c29 => ?_)
      · refine yr_aload_n 41 C dX9_gapOf_40 rfl rfl rfl ?_
        refine ym_getA 44 C hR dX9_gapOf_41 fl_X9_59 (by decide) rfl rfl ?_
        refine yr_iload_n 45 C dX9_gapOf_44 rfl rfl ?_
        refine ym_aldN 46 C hR dX9_gapOf_45 (by decide) rfl rfl ?_ rfl ?_
        · simp only [mL]; omega
        refine yr_aload_n 47 C dX9_gapOf_46 rfl rfl rfl ?_
        refine ym_get 50 C hR dX9_gapOf_47 fl_X9_133 (by decide) rfl rfl ?_
        refine yr_icmp_ge 61 53 C dX9_gapOf_50 (by decide) rfl (fun c50 => ?_) (fun c50 => ?_)
        · have hlen : t ≤ 200 := by
            rcases k6 with e | ⟨n, hn, e⟩
            · rw [e] at c29; exact absurd c29 (by decide)
            · rw [e, k3.1] at c50
              have := (nI_leI (by omega) (by omega)).mp c50
              omega
          refine yr_iconst 62 C (0) dX9_gapOf_61 rfl rfl ?_
          refine yr_istore3 63 C dX9_gapOf_62 (by decide) rfl ?_
          refine yr_aload_n 64 C dX9_gapOf_63 rfl rfl rfl ?_
          refine ym_get 67 C hR dX9_gapOf_64 fl_X9_189 (by decide) rfl rfl ?_
          rw [eb]
          refine yr_istore4 69 C dX9_gapOf_67 (by decide) rfl ?_
          have loop69 : ∀ (j i : Nat) (x : Int32), i + j = t → m_sumL S d j i x = m_sumL S d (t - b) b 0 → ∀ h : yH, yMR dA ad m0 (S) h → yW p l e (yR 1 0 0) s m args below meth c 5 D A 0 0 (yF D A (fun r h' => r = some (.int (m_gap S a).1) ∧ yMR dA ad m0 ((m_gap S a).2) h') below args s 0 0) 69 [some (.ref m0), some (.int (nI a)), some (.int (nI d)), some (.int x), some (.int (nI i))] [] h := by
            intro j
            induction j with
            | zero =>
              intro i x hij he h hR
              obtain rfl : i = t := by omega
              simp only [m_sumL] at he
              refine yr_iload 71 C dX9_gapOf_69 rfl rfl ?_
              refine yr_aload_n 72 C dX9_gapOf_71 rfl rfl rfl ?_
              refine ym_get 75 C hR dX9_gapOf_72 fl_X9_133 (by decide) rfl rfl ?_
              rw [k3.1]
              refine yr_icmp_ge 100 78 C dX9_gapOf_75 (by decide) rfl (fun c75 => ?_) (fun c75 => ?_)
              rotate_left
              · exact absurd (nI_le (by omega) (by omega)) c75
              refine yr_iload_n 101 C dX9_gapOf_100 rfl rfl ?_
              refine yr_if_ne 112 104 C dX9_gapOf_101 (by decide) rfl (fun c101 => ?_) (fun c101 => ?_)
              · refine yr_aload_n 113 C dX9_gapOf_112 rfl rfl rfl ?_
                refine ym_get 116 C hR dX9_gapOf_113 fl_X9_133 (by decide) rfl rfl ?_
                refine yr_aload_n 117 C dX9_gapOf_116 rfl rfl rfl ?_
                refine ym_get 120 C hR dX9_gapOf_117 fl_X9_189 (by decide) rfl rfl ?_
                refine yr_isub 121 C dX9_gapOf_120 rfl ?_
                refine yr_iload_n 122 C dX9_gapOf_121 rfl rfl ?_
                refine yr_idiv 123 C dX9_gapOf_122 ?_ rfl ?_
                · exact c101
                refine yr_iret C dX9_gapOf_123 hr (Nat.le_of_ble_eq_true rfl) (Nat.le_of_ble_eq_true rfl) ?_
                refine ⟨?_, ?_⟩
                · simp [m_gap, e0, et, ex, ← he, c7, c20, c29, c50, c101]
                · simpa [m_gap, e0, et, ex, ← he, c7, c20, c29, c50, c101] using hR
              · refine yr_aload_n 105 C dX9_gapOf_104 rfl rfl rfl ?_
                refine yr_iconst 106 C (3) dX9_gapOf_105 rfl rfl ?_
                refine yr_iload_n 107 C dX9_gapOf_106 rfl rfl ?_
                refine yr_V2u 110 C (mc_found hZ _ (by decide) _ _ hR) dX9_gapOf_107 mt_X9_found mv_X9_found ml_X9_169 hR.1 rfl (Nat.le_of_ble_eq_true rfl) (Nat.le_of_ble_eq_true rfl) (Nat.le_of_ble_eq_true rfl) (Nat.le_of_ble_eq_true rfl) (Nat.le_of_ble_eq_true rfl) rfl (fun h hR => ?_)
                refine yr_iconst 111 C (0) dX9_gapOf_110 rfl rfl ?_
                refine yr_iret C dX9_gapOf_111 hr (Nat.le_of_ble_eq_true rfl) (Nat.le_of_ble_eq_true rfl) ?_
                refine ⟨?_, ?_⟩
                · simp [m_gap, e0, et, ex, ← he, c7, c20, c29, c50, c101]
                · simpa [m_gap, e0, et, ex, ← he, c7, c20, c29, c50, c101] using hR
            | succ j ih =>
              intro i x hij he h hR
              refine yr_iload 71 C dX9_gapOf_69 rfl rfl ?_
              refine yr_aload_n 72 C dX9_gapOf_71 rfl rfl rfl ?_
              refine ym_get 75 C hR dX9_gapOf_72 fl_X9_133 (by decide) rfl rfl ?_
              rw [k3.1]
              refine yr_icmp_ge 100 78 C dX9_gapOf_75 (by decide) rfl (fun c75 => ?_) (fun c75 => ?_)
              · exact absurd c75 (nI_ge (by omega) (by omega))
              refine yr_iload_n 79 C dX9_gapOf_78 rfl rfl ?_
              refine yr_aload_n 80 C dX9_gapOf_79 rfl rfl rfl ?_
              refine ym_getA 83 C hR dX9_gapOf_80 fl_X9_62 (by decide) rfl rfl ?_
              refine yr_sipush 86 C (200) dX9_gapOf_83 rfl rfl ?_
              refine yr_iload_n 87 C dX9_gapOf_86 rfl rfl ?_
              refine yr_imul 88 C dX9_gapOf_87 rfl ?_
              refine yr_iload 90 C dX9_gapOf_88 rfl rfl ?_
              refine yr_iadd 91 C dX9_gapOf_90 rfl ?_
              rw [show (200 : Int32) * nI d + nI i = nI (200 * d + i) from ixm]
              refine ym_aldN 92 C hR dX9_gapOf_91 (by decide) rfl rfl ?_ rfl ?_
              · simp only [mL]; omega
              refine yr_iadd 93 C dX9_gapOf_92 rfl ?_
              refine yr_istore3 94 C dX9_gapOf_93 (by decide) rfl ?_
              refine yr_iinc4 97 C (1) dX9_gapOf_94 rfl (by decide) rfl ?_
              rw [nI_1]
              refine yr_goto 69 C dX9_gapOf_97 (by decide) ?_
              exact ih (i + 1) _ (by omega) he h hR
          exact loop69 (t - b) b 0 (by omega) rfl h hR
        · refine yr_aload_n 54 C dX9_gapOf_53 rfl rfl rfl ?_
          refine yr_iconst 55 C (2) dX9_gapOf_54 rfl rfl ?_
          refine yr_iload_n 56 C dX9_gapOf_55 rfl rfl ?_
          refine yr_V2u 59 C (mc_found hZ _ (by decide) _ _ hR) dX9_gapOf_56 mt_X9_found mv_X9_found ml_X9_169 hR.1 rfl (Nat.le_of_ble_eq_true rfl) (Nat.le_of_ble_eq_true rfl) (Nat.le_of_ble_eq_true rfl) (Nat.le_of_ble_eq_true rfl) (Nat.le_of_ble_eq_true rfl) rfl (fun h hR => ?_)
          refine yr_iconst 60 C (0) dX9_gapOf_59 rfl rfl ?_
          refine yr_iret C dX9_gapOf_60 hr (Nat.le_of_ble_eq_true rfl) (Nat.le_of_ble_eq_true rfl) ?_
          refine ⟨?_, ?_⟩
          · first | (simp [m_gap, c7, c20, c29, c50]; done) | (simp [m_gap, e0, c7, c20, c29, c50]; done)
          · first | (simpa [m_gap, c7, c20, c29, c50] using hR) | (simpa [m_gap, e0, c7, c20, c29, c50] using hR)
      · refine yr_aload_n 33 C dX9_gapOf_32 rfl rfl rfl ?_
        refine yr_iconst 34 C (1) dX9_gapOf_33 rfl rfl ?_
        refine yr_iload_n 35 C dX9_gapOf_34 rfl rfl ?_
        refine yr_V2u 38 C (mc_found hZ _ (by decide) _ _ hR) dX9_gapOf_35 mt_X9_found mv_X9_found ml_X9_169 hR.1 rfl (Nat.le_of_ble_eq_true rfl) (Nat.le_of_ble_eq_true rfl) (Nat.le_of_ble_eq_true rfl) (Nat.le_of_ble_eq_true rfl) (Nat.le_of_ble_eq_true rfl) rfl (fun h hR => ?_)
        refine yr_iconst 39 C (0) dX9_gapOf_38 rfl rfl ?_
        refine yr_iret C dX9_gapOf_39 hr (Nat.le_of_ble_eq_true rfl) (Nat.le_of_ble_eq_true rfl) ?_
        refine ⟨?_, ?_⟩
        · first | (simp [m_gap, c7, c20, c29]; done) | (simp [m_gap, e0, c7, c20, c29]; done)
        · first | (simpa [m_gap, c7, c20, c29] using hR) | (simpa [m_gap, e0, c7, c20, c29] using hR)
  · refine yr_iconst 11 C (0) dX9_gapOf_10 rfl rfl ?_
    refine yr_iret C dX9_gapOf_11 hr (Nat.le_of_ble_eq_true rfl) (Nat.le_of_ble_eq_true rfl) ?_
    refine ⟨?_, ?_⟩
    · first | (simp [m_gap, c7]; done) | (simp [m_gap, e0, c7]; done)
    · first | (simpa [m_gap, c7] using hR) | (simpa [m_gap, e0, c7] using hR)
set_option maxHeartbeats 4000000 in
set_option maxRecDepth 100000 in
theorem mc_change (hZ : yZok D dA Z) (a : Nat) (ha : a < np) (v : Int32) (hB : mB S np ns nd nr t) (h : yH) (hR : yMR dA ad m0 (S) h) : yM Z D yX9_change cX9_change 3 none 2 0 0 [.ref m0, .int (nI a), .int v] h (fun r h' => r = none ∧ yMR dA ad m0 (m_change S a v) h') := by
  refine yM_of hZ (by decide) rfl (Nat.le_of_ble_eq_true rfl) ?_
  intro p l e s m args below meth c A C hr hin
  show yW p l e (yR 2 0 0) s m args below meth c 3 D A 0 0 _ 0 [some (.ref m0), some (.int (nI a)), some (.int v)] [] h
  have k0 : S 1 0 = nI np ∧ np ≤ 8 := hB 0
  refine yr_aload_n 1 C dX9_change_0 rfl rfl rfl ?_
  refine ym_getA 4 C hR dX9_change_1 fl_X9_19 (by decide) rfl rfl ?_
  refine yr_iload_n 5 C dX9_change_4 rfl rfl ?_
  refine yr_dup2 6 C dX9_change_5 rfl rfl rfl ?_
  refine ym_aldN 7 C hR dX9_change_6 (by decide) rfl rfl ?_ rfl ?_
  · simp only [mL]; omega
  refine yr_iconst 8 C (1) dX9_change_7 rfl rfl ?_
  refine yr_iadd 9 C dX9_change_8 rfl ?_
  refine ym_astN 10 C hR dX9_change_9 (by decide) rfl rfl ?_ rfl (fun h hR => ?_)
  · simp only [mL]; omega
  have hB1 : mB (m_chg0 S a) np ns nd nr t := mB_fr hB (mFr_set S a (S 5 a + 1) (show mFk 5 = true from rfl))
  replace hR : yMR dA ad m0 (m_chg0 S a) h := hR
  refine yr_aload_n 11 C dX9_change_10 rfl rfl rfl ?_
  refine ym_getA 14 C hR dX9_change_11 fl_X9_13 (by decide) rfl rfl ?_
  refine yr_iload_n 15 C dX9_change_14 rfl rfl ?_
  refine ym_aldN 16 C hR dX9_change_15 (by decide) rfl rfl ?_ rfl ?_
  · simp only [mL]; omega
  refine yr_iconst 17 C (1) dX9_change_16 rfl rfl ?_
  refine yr_icmp_ne 31 20 C dX9_change_17 (by decide) rfl (fun c17 => ?_) (fun c17 => ?_)
  · replace hR : yMR dA ad m0 (m_chg1 (m_chg0 S a) a) h := by simpa [m_chg1, c17] using hR
    refine yr_aload_n 32 C dX9_change_31 rfl rfl rfl ?_
    refine ym_getA 35 C hR dX9_change_32 fl_X9_13 (by decide) rfl rfl ?_
    refine yr_iload_n 36 C dX9_change_35 rfl rfl ?_
    refine yr_iload_n 37 C dX9_change_36 rfl rfl ?_
    refine ym_astN 38 C hR dX9_change_37 (by decide) rfl rfl ?_ rfl (fun h hR => ?_)
    · simp only [mL]; omega
    refine yr_aload_n 39 C dX9_change_38 rfl rfl rfl ?_
    refine yr_dup 40 C dX9_change_39 rfl rfl ?_
    refine ym_get 43 C hR dX9_change_40 fl_X9_186 (by decide) rfl rfl ?_
    refine yr_iconst 44 C (1) dX9_change_43 rfl rfl ?_
    refine yr_iadd 45 C dX9_change_44 rfl ?_
    refine ym_put 48 C hR dX9_change_45 fp_X9_186 (by decide) rfl rfl (fun h hR => ?_)
    refine yr_vret C dX9_change_48 hr (Nat.le_of_ble_eq_true rfl) (Nat.le_of_ble_eq_true rfl) ?_
    rw [mset_ne _ _ (show 49 ≠ 3 by decide)] at hR
    exact ⟨rfl, hR⟩
  · refine yr_aload_n 21 C dX9_change_20 rfl rfl rfl ?_
    refine ym_getA 24 C hR dX9_change_21 fl_X9_22 (by decide) rfl rfl ?_
    refine yr_iload_n 25 C dX9_change_24 rfl rfl ?_
    refine yr_aload_n 26 C dX9_change_25 rfl rfl rfl ?_
    refine yr_iload_n 27 C dX9_change_26 rfl rfl ?_
    refine yr_V1v 30 C (mc_gapOf hZ _ ha hB1 _ hR) dX9_change_27 mt_X9_gapOf mv_X9_gapOf ml_X9_183 hR.1 rfl (Nat.le_of_ble_eq_true rfl) (Nat.le_of_ble_eq_true rfl) (Nat.le_of_ble_eq_true rfl) (Nat.le_of_ble_eq_true rfl) (Nat.le_of_ble_eq_true rfl) rfl (fun h hR => ?_)
    refine ym_astN 31 C hR dX9_change_30 (by decide) rfl rfl ?_ rfl (fun h hR => ?_)
    · simp only [mL]; omega
    replace hR : yMR dA ad m0 (m_chg1 (m_chg0 S a) a) h := by simpa [m_chg1, c17] using hR
    refine yr_aload_n 32 C dX9_change_31 rfl rfl rfl ?_
    refine ym_getA 35 C hR dX9_change_32 fl_X9_13 (by decide) rfl rfl ?_
    refine yr_iload_n 36 C dX9_change_35 rfl rfl ?_
    refine yr_iload_n 37 C dX9_change_36 rfl rfl ?_
    refine ym_astN 38 C hR dX9_change_37 (by decide) rfl rfl ?_ rfl (fun h hR => ?_)
    · simp only [mL]; omega
    refine yr_aload_n 39 C dX9_change_38 rfl rfl rfl ?_
    refine yr_dup 40 C dX9_change_39 rfl rfl ?_
    refine ym_get 43 C hR dX9_change_40 fl_X9_186 (by decide) rfl rfl ?_
    refine yr_iconst 44 C (1) dX9_change_43 rfl rfl ?_
    refine yr_iadd 45 C dX9_change_44 rfl ?_
    refine ym_put 48 C hR dX9_change_45 fp_X9_186 (by decide) rfl rfl (fun h hR => ?_)
    refine yr_vret C dX9_change_48 hr (Nat.le_of_ble_eq_true rfl) (Nat.le_of_ble_eq_true rfl) ?_
    rw [mset_ne _ _ (show 49 ≠ 3 by decide)] at hR
    exact ⟨rfl, hR⟩
set_option maxHeartbeats 4000000 in
set_option maxRecDepth 100000 in
theorem mc_endsIn (hZ : yZok D dA Z) (a : Nat) (ha : a < np) (u : Int32) (hB : mB S np ns nd nr t) (h : yH) (hR : yMR dA ad m0 (S) h) : yM Z D yX9_endsIn cX9_endsIn 5 none 0 0 0 [.ref m0, .int (nI a), .int u] h (fun r h' => r = none ∧ yMR dA ad m0 (m_endsIn S np a u) h') := by
  refine yM_of hZ (by decide) rfl (Nat.le_of_ble_eq_true rfl) ?_
  intro p l e s m args below meth c A C hr hin
  show yW p l e (yR 0 0 0) s m args below meth c 5 D A 0 0 _ 0 [some (.ref m0), some (.int (nI a)), some (.int u), none, none] [] h
  have k0 : S 1 0 = nI np ∧ np ≤ 8 := hB 0
  refine yr_aload_n 1 C dX9_endsIn_0 rfl rfl rfl ?_
  refine ym_getA 4 C hR dX9_endsIn_1 fl_X9_28 (by decide) rfl rfl ?_
  refine yr_iload_n 5 C dX9_endsIn_4 rfl rfl ?_
  refine yr_iload_n 6 C dX9_endsIn_5 rfl rfl ?_
  refine ym_astN 7 C hR dX9_endsIn_6 (by decide) rfl rfl ?_ rfl (fun h hR => ?_)
  · simp only [mL]; omega
  refine yr_iconst 8 C (0) dX9_endsIn_7 rfl rfl ?_
  refine yr_istore3 9 C dX9_endsIn_8 (by decide) rfl ?_
  have loop9 : ∀ (j i : Nat) (X : yS), i + j = np → mB X np ns nd nr t → m_endL a u j i X = m_endsIn S np a u → ∀ h : yH, yMR dA ad m0 (X) h → yW p l e (yR 0 0 0) s m args below meth c 5 D A 0 0 (yF D A (fun r h' => r = none ∧ yMR dA ad m0 (m_endsIn S np a u) h') below args s 0 0) 9 [some (.ref m0), some (.int (nI a)), some (.int u), some (.int (nI i)), none] [] h := by
    intro j
    induction j with
    | zero =>
      intro i X hij hX he h hR
      refine yr_iload_n 10 C dX9_endsIn_9 rfl rfl ?_
      refine yr_aload_n 11 C dX9_endsIn_10 rfl rfl rfl ?_
      refine ym_get 14 C hR dX9_endsIn_11 fl_X9_120 (by decide) rfl rfl ?_
      rw [(show X 1 0 = nI np ∧ np ≤ 8 from hX 0).1]
      refine yr_icmp_ge 68 17 C dX9_endsIn_14 (by decide) rfl (fun c14 => ?_) (fun c14 => ?_)
      rotate_left
      · exact absurd (nI_le (by omega) (by omega)) c14
      refine yr_vret C dX9_endsIn_68 hr (Nat.le_of_ble_eq_true rfl) (Nat.le_of_ble_eq_true rfl) ?_
      exact ⟨rfl, by rw [← he]; exact hR⟩
    | succ j ih =>
      intro i X hij hX he h hR
      refine yr_iload_n 10 C dX9_endsIn_9 rfl rfl ?_
      refine yr_aload_n 11 C dX9_endsIn_10 rfl rfl rfl ?_
      refine ym_get 14 C hR dX9_endsIn_11 fl_X9_120 (by decide) rfl rfl ?_
      rw [(show X 1 0 = nI np ∧ np ≤ 8 from hX 0).1]
      refine yr_icmp_ge 68 17 C dX9_endsIn_14 (by decide) rfl (fun c14 => ?_) (fun c14 => ?_)
      · exact absurd c14 (nI_ge (by omega) (by omega))
      refine yr_aload_n 18 C dX9_endsIn_17 rfl rfl rfl ?_
      refine ym_getA 21 C hR dX9_endsIn_18 fl_X9_53 (by decide) rfl rfl ?_
      refine yr_bipush 23 C (8) dX9_endsIn_21 rfl rfl ?_
      refine yr_iload_n 24 C dX9_endsIn_23 rfl rfl ?_
      refine yr_imul 25 C dX9_endsIn_24 rfl ?_
      refine yr_iload_n 26 C dX9_endsIn_25 rfl rfl ?_
      refine yr_iadd 27 C dX9_endsIn_26 rfl ?_
      rw [show (8 : Int32) * nI a + nI i = nI (8 * a + i) from ixm]
      refine ym_aldN 28 C hR dX9_endsIn_27 (by decide) rfl rfl ?_ rfl ?_
      · simp only [mL]; omega
      refine yr_istore4 30 C dX9_endsIn_28 (by decide) rfl ?_
      refine yr_iload 32 C dX9_endsIn_30 rfl rfl ?_
      refine yr_if_le 62 35 C dX9_endsIn_32 (by decide) rfl (fun c32 => ?_) (fun c32 => ?_)
      · refine yr_iinc3 65 C (1) dX9_endsIn_62 rfl (by decide) rfl ?_
        rw [nI_1]
        refine yr_goto 9 C dX9_endsIn_65 (by decide) ?_
        refine yr_forget4 ?_
        exact ih (i + 1) _ (by omega) (mB_fr hX (m_free_fr X a i u)) he h (by simpa [m_free, c32] using hR)
      · refine yr_iload_n 36 C dX9_endsIn_35 rfl rfl ?_
        refine yr_iload 38 C dX9_endsIn_36 rfl rfl ?_
        refine yr_iadd 39 C dX9_endsIn_38 rfl ?_
        refine yr_iconst 40 C (1) dX9_endsIn_39 rfl rfl ?_
        refine yr_isub 41 C dX9_endsIn_40 rfl ?_
        refine yr_aload_n 42 C dX9_endsIn_41 rfl rfl rfl ?_
        refine ym_getA 45 C hR dX9_endsIn_42 fl_X9_31 (by decide) rfl rfl ?_
        refine yr_iload_n 46 C dX9_endsIn_45 rfl rfl ?_
        refine ym_aldN 47 C hR dX9_endsIn_46 (by decide) rfl rfl ?_ rfl ?_
        · simp only [mL]; omega
        refine yr_icmp_le 62 50 C dX9_endsIn_47 (by decide) rfl (fun c47 => ?_) (fun c47 => ?_)
        · refine yr_iinc3 65 C (1) dX9_endsIn_62 rfl (by decide) rfl ?_
          rw [nI_1]
          refine yr_goto 9 C dX9_endsIn_65 (by decide) ?_
          refine yr_forget4 ?_
          exact ih (i + 1) _ (by omega) (mB_fr hX (m_free_fr X a i u)) he h (by simpa [m_free, c32, c47] using hR)
        · refine yr_aload_n 51 C dX9_endsIn_50 rfl rfl rfl ?_
          refine ym_getA 54 C hR dX9_endsIn_51 fl_X9_31 (by decide) rfl rfl ?_
          refine yr_iload_n 55 C dX9_endsIn_54 rfl rfl ?_
          refine yr_iload_n 56 C dX9_endsIn_55 rfl rfl ?_
          refine yr_iload 58 C dX9_endsIn_56 rfl rfl ?_
          refine yr_iadd 59 C dX9_endsIn_58 rfl ?_
          refine yr_iconst 60 C (1) dX9_endsIn_59 rfl rfl ?_
          refine yr_isub 61 C dX9_endsIn_60 rfl ?_
          refine ym_astN 62 C hR dX9_endsIn_61 (by decide) rfl rfl ?_ rfl (fun h hR => ?_)
          · simp only [mL]; omega
          refine yr_iinc3 65 C (1) dX9_endsIn_62 rfl (by decide) rfl ?_
          rw [nI_1]
          refine yr_goto 9 C dX9_endsIn_65 (by decide) ?_
          refine yr_forget4 ?_
          exact ih (i + 1) _ (by omega) (mB_fr hX (m_free_fr X a i u)) he h (by simpa [m_free, c32, c47] using hR)
  exact loop9 np 0 _ (by omega) (mB_fr hB (mFr_set S a u (show mFk 8 = true from rfl))) rfl h hR
set_option maxHeartbeats 4000000 in
set_option maxRecDepth 100000 in
theorem mc_leastOf (hZ : yZok D dA Z) (a : Nat) (ha : a < ns) (hB : mB S np ns nd nr t) (h : yH) (hR : yMR dA ad m0 (S) h) : yM Z D yX9_leastOf cX9_leastOf 5 (some .int) 0 0 0 [.ref m0, .int (nI a)] h (fun r h' => r = some (.int (m_least S a)) ∧ yMR dA ad m0 (S) h') := by
  refine yM_of hZ (by decide) rfl (Nat.le_of_ble_eq_true rfl) ?_
  intro p l e s m args below meth c A C hr hin
  show yW p l e (yR 0 0 0) s m args below meth c 5 D A 0 0 _ 0 [some (.ref m0), some (.int (nI a)), none, none, none] [] h
  have k1 : S 17 0 = nI ns ∧ ns ≤ 6 := hB 1
  have k0 : S 1 0 = nI np ∧ np ≤ 8 := hB 0
  refine yr_iconst 1 C (0) dX9_leastOf_0 rfl rfl ?_
  refine yr_istore2 2 C dX9_leastOf_1 (by decide) rfl ?_
  refine yr_iconst 3 C (0) dX9_leastOf_2 rfl rfl ?_
  refine yr_istore3 4 C dX9_leastOf_3 (by decide) rfl ?_
  have loop4 : ∀ (j i : Nat) (x : Int32), i + j = 4 → m_leastL S a j i x = m_least S a → ∀ h : yH, yMR dA ad m0 (S) h → yW p l e (yR 0 0 0) s m args below meth c 5 D A 0 0 (yF D A (fun r h' => r = some (.int (m_least S a)) ∧ yMR dA ad m0 (S) h') below args s 0 0) 4 [some (.ref m0), some (.int (nI a)), some (.int x), some (.int (nI i)), none] [] h := by
    intro j
    induction j with
    | zero =>
      intro i x hij he h hR
      obtain rfl : i = 4 := by omega
      refine yr_iload_n 5 C dX9_leastOf_4 rfl rfl ?_
      refine yr_iconst 6 C (4) dX9_leastOf_5 rfl rfl ?_
      refine yr_icmp_ge 55 9 C dX9_leastOf_6 (by decide) rfl (fun c6 => ?_) (fun c6 => ?_)
      rotate_left
      · exact absurd (by decide) c6
      refine yr_iload_n 56 C dX9_leastOf_55 rfl rfl ?_
      refine yr_iret C dX9_leastOf_56 hr (Nat.le_of_ble_eq_true rfl) (Nat.le_of_ble_eq_true rfl) ?_
      exact ⟨by rw [← he]; rfl, hR⟩
    | succ j ih =>
      intro i x hij he h hR
      have q7 : cO (S 18 (4 * a + i)) np := (show ∀ s, s < ns → ∀ k, k < 4 → cO (S 18 (4 * s + k)) np from hB 7) a ha i (by omega)
      refine yr_iload_n 5 C dX9_leastOf_4 rfl rfl ?_
      refine yr_iconst 6 C (4) dX9_leastOf_5 rfl rfl ?_
      refine yr_icmp_ge 55 9 C dX9_leastOf_6 (by decide) rfl (fun c6 => ?_) (fun c6 => ?_)
      · exact absurd c6 (nI_ge (b := 4) (by omega) (by decide))
      refine yr_aload_n 10 C dX9_leastOf_9 rfl rfl rfl ?_
      refine ym_getA 13 C hR dX9_leastOf_10 fl_X9_56 (by decide) rfl rfl ?_
      refine yr_iconst 14 C (4) dX9_leastOf_13 rfl rfl ?_
      refine yr_iload_n 15 C dX9_leastOf_14 rfl rfl ?_
      refine yr_imul 16 C dX9_leastOf_15 rfl ?_
      refine yr_iload_n 17 C dX9_leastOf_16 rfl rfl ?_
      refine yr_iadd 18 C dX9_leastOf_17 rfl ?_
      rw [show (4 : Int32) * nI a + nI i = nI (4 * a + i) from ixm]
      refine ym_aldN 19 C hR dX9_leastOf_18 (by decide) rfl rfl ?_ rfl ?_
      · simp only [mL]; omega
      refine yr_istore4 21 C dX9_leastOf_19 (by decide) rfl ?_
      refine yr_iload 23 C dX9_leastOf_21 rfl rfl ?_
      refine yr_if_lt 47 26 C dX9_leastOf_23 (by decide) rfl (fun c23 => ?_) (fun c23 => ?_)
      · refine yr_iload_n 48 C dX9_leastOf_47 rfl rfl ?_
        refine yr_istore2 49 C dX9_leastOf_48 (by decide) rfl ?_
        refine yr_iinc3 52 C (1) dX9_leastOf_49 rfl (by decide) rfl ?_
        rw [nI_1]
        refine yr_goto 4 C dX9_leastOf_52 (by decide) ?_
        refine yr_forget4 ?_
        exact ih (i + 1) _ (by omega) (by rw [← he]; first | (simp [m_leastL, m_leastS, c23]; done) | simp [m_leastL, m_leastS, e4, c23]) h hR
      · obtain ⟨z, hz, ez⟩ := cO_lt (by omega) q7 c23
        have e4 : ix (S 18 (4 * a + i)) = z := by rw [ez]; exact ix_nI (by omega)
        refine yr_aload_n 27 C dX9_leastOf_26 rfl rfl rfl ?_
        refine ym_getA 30 C hR dX9_leastOf_27 fl_X9_37 (by decide) rfl rfl ?_
        refine yr_iload 32 C dX9_leastOf_30 rfl rfl ?_
        rw [ez]
        refine ym_aldN 33 C hR dX9_leastOf_32 (by decide) rfl rfl ?_ rfl ?_
        · simp only [mL]; omega
        refine yr_iload_n 34 C dX9_leastOf_33 rfl rfl ?_
        refine yr_icmp_le 47 37 C dX9_leastOf_34 (by decide) rfl (fun c34 => ?_) (fun c34 => ?_)
        · refine yr_iload_n 48 C dX9_leastOf_47 rfl rfl ?_
          refine yr_istore2 49 C dX9_leastOf_48 (by decide) rfl ?_
          refine yr_iinc3 52 C (1) dX9_leastOf_49 rfl (by decide) rfl ?_
          rw [nI_1]
          refine yr_goto 4 C dX9_leastOf_52 (by decide) ?_
          refine yr_forget4 ?_
          exact ih (i + 1) _ (by omega) (by rw [← he]; first | (simp [m_leastL, m_leastS, c23, c34]; done) | simp [m_leastL, m_leastS, e4, c23, c34]) h hR
        · refine yr_aload_n 38 C dX9_leastOf_37 rfl rfl rfl ?_
          refine ym_getA 41 C hR dX9_leastOf_38 fl_X9_37 (by decide) rfl rfl ?_
          refine yr_iload 43 C dX9_leastOf_41 rfl rfl ?_
          refine ym_aldN 44 C hR dX9_leastOf_43 (by decide) rfl rfl ?_ rfl ?_
          · simp only [mL]; omega
          refine yr_goto 48 C dX9_leastOf_44 (by decide) ?_
          refine yr_istore2 49 C dX9_leastOf_48 (by decide) rfl ?_
          refine yr_iinc3 52 C (1) dX9_leastOf_49 rfl (by decide) rfl ?_
          rw [nI_1]
          refine yr_goto 4 C dX9_leastOf_52 (by decide) ?_
          refine yr_forget4 ?_
          exact ih (i + 1) _ (by omega) (by rw [← he]; first | (simp [m_leastL, m_leastS, c23, c34]; done) | simp [m_leastL, m_leastS, e4, c23, c34]) h hR
  exact loop4 4 0 _ rfl rfl h hR
set_option maxHeartbeats 4000000 in
set_option maxRecDepth 100000 in
theorem mc_greatestOf (hZ : yZok D dA Z) (a : Nat) (ha : a < ns) (hB : mB S np ns nd nr t) (h : yH) (hR : yMR dA ad m0 (S) h) : yM Z D yX9_greatestOf cX9_greatestOf 5 (some .int) 1 0 0 [.ref m0, .int (nI a)] h (fun r h' => r = some (.int (m_great S a)) ∧ yMR dA ad m0 (S) h') := by
  refine yM_of hZ (by decide) rfl (Nat.le_of_ble_eq_true rfl) ?_
  intro p l e s m args below meth c A C hr hin
  show yW p l e (yR 1 0 0) s m args below meth c 5 D A 0 0 _ 0 [some (.ref m0), some (.int (nI a)), none, none, none] [] h
  have k1 : S 17 0 = nI ns ∧ ns ≤ 6 := hB 1
  have k0 : S 1 0 = nI np ∧ np ≤ 8 := hB 0
  refine yr_sipush 3 C (1000) dX9_greatestOf_0 rfl rfl ?_
  refine yr_istore2 4 C dX9_greatestOf_3 (by decide) rfl ?_
  refine yr_iconst 5 C (0) dX9_greatestOf_4 rfl rfl ?_
  refine yr_istore3 6 C dX9_greatestOf_5 (by decide) rfl ?_
  have loop6 : ∀ (j i : Nat) (x : Int32), i + j = 4 → m_greatL S a j i x = m_greatL S a 4 0 1000 → ∀ h : yH, yMR dA ad m0 (S) h → yW p l e (yR 1 0 0) s m args below meth c 5 D A 0 0 (yF D A (fun r h' => r = some (.int (m_great S a)) ∧ yMR dA ad m0 (S) h') below args s 0 0) 6 [some (.ref m0), some (.int (nI a)), some (.int x), some (.int (nI i)), none] [] h := by
    intro j
    induction j with
    | zero =>
      intro i x hij he h hR
      obtain rfl : i = 4 := by omega
      refine yr_iload_n 7 C dX9_greatestOf_6 rfl rfl ?_
      refine yr_iconst 8 C (4) dX9_greatestOf_7 rfl rfl ?_
      refine yr_icmp_ge 57 11 C dX9_greatestOf_8 (by decide) rfl (fun c8 => ?_) (fun c8 => ?_)
      rotate_left
      · exact absurd (by decide) c8
      refine yr_iload_n 58 C dX9_greatestOf_57 rfl rfl ?_
      refine yr_aload_n 59 C dX9_greatestOf_58 rfl rfl rfl ?_
      refine yr_iload_n 60 C dX9_greatestOf_59 rfl rfl ?_
      refine yr_V1v 63 C (mc_leastOf hZ _ (by omega) hB _ hR) dX9_greatestOf_60 mt_X9_leastOf mv_X9_leastOf ml_X9_192 hR.1 rfl (Nat.le_of_ble_eq_true rfl) (Nat.le_of_ble_eq_true rfl) (Nat.le_of_ble_eq_true rfl) (Nat.le_of_ble_eq_true rfl) (Nat.le_of_ble_eq_true rfl) rfl (fun h hR => ?_)
      refine yr_icmp_ge 74 66 C dX9_greatestOf_63 (by decide) rfl (fun c63 => ?_) (fun c63 => ?_)
      · refine yr_iload_n 75 C dX9_greatestOf_74 rfl rfl ?_
        refine yr_iret C dX9_greatestOf_75 hr (Nat.le_of_ble_eq_true rfl) (Nat.le_of_ble_eq_true rfl) ?_
        have he2 : x = m_greatL S a 4 0 1000 := he
        exact ⟨by simp [m_great, ← he2, c63], hR⟩
      · refine yr_aload_n 67 C dX9_greatestOf_66 rfl rfl rfl ?_
        refine yr_iload_n 68 C dX9_greatestOf_67 rfl rfl ?_
        refine yr_V1v 71 C (mc_leastOf hZ _ (by omega) hB _ hR) dX9_greatestOf_68 mt_X9_leastOf mv_X9_leastOf ml_X9_192 hR.1 rfl (Nat.le_of_ble_eq_true rfl) (Nat.le_of_ble_eq_true rfl) (Nat.le_of_ble_eq_true rfl) (Nat.le_of_ble_eq_true rfl) (Nat.le_of_ble_eq_true rfl) rfl (fun h hR => ?_)
        refine yr_goto 75 C dX9_greatestOf_71 (by decide) ?_
        refine yr_iret C dX9_greatestOf_75 hr (Nat.le_of_ble_eq_true rfl) (Nat.le_of_ble_eq_true rfl) ?_
        have he2 : x = m_greatL S a 4 0 1000 := he
        exact ⟨by simp [m_great, ← he2, c63], hR⟩
    | succ j ih =>
      intro i x hij he h hR
      have q7 : cO (S 18 (4 * a + i)) np := (show ∀ s, s < ns → ∀ k, k < 4 → cO (S 18 (4 * s + k)) np from hB 7) a ha i (by omega)
      refine yr_iload_n 7 C dX9_greatestOf_6 rfl rfl ?_
      refine yr_iconst 8 C (4) dX9_greatestOf_7 rfl rfl ?_
      refine yr_icmp_ge 57 11 C dX9_greatestOf_8 (by decide) rfl (fun c8 => ?_) (fun c8 => ?_)
      · exact absurd c8 (nI_ge (b := 4) (by omega) (by decide))
      refine yr_aload_n 12 C dX9_greatestOf_11 rfl rfl rfl ?_
      refine ym_getA 15 C hR dX9_greatestOf_12 fl_X9_56 (by decide) rfl rfl ?_
      refine yr_iconst 16 C (4) dX9_greatestOf_15 rfl rfl ?_
      refine yr_iload_n 17 C dX9_greatestOf_16 rfl rfl ?_
      refine yr_imul 18 C dX9_greatestOf_17 rfl ?_
      refine yr_iload_n 19 C dX9_greatestOf_18 rfl rfl ?_
      refine yr_iadd 20 C dX9_greatestOf_19 rfl ?_
      rw [show (4 : Int32) * nI a + nI i = nI (4 * a + i) from ixm]
      refine ym_aldN 21 C hR dX9_greatestOf_20 (by decide) rfl rfl ?_ rfl ?_
      · simp only [mL]; omega
      refine yr_istore4 23 C dX9_greatestOf_21 (by decide) rfl ?_
      refine yr_iload 25 C dX9_greatestOf_23 rfl rfl ?_
      refine yr_if_lt 49 28 C dX9_greatestOf_25 (by decide) rfl (fun c25 => ?_) (fun c25 => ?_)
      · refine yr_iload_n 50 C dX9_greatestOf_49 rfl rfl ?_
        refine yr_istore2 51 C dX9_greatestOf_50 (by decide) rfl ?_
        refine yr_iinc3 54 C (1) dX9_greatestOf_51 rfl (by decide) rfl ?_
        rw [nI_1]
        refine yr_goto 6 C dX9_greatestOf_54 (by decide) ?_
        refine yr_forget4 ?_
        exact ih (i + 1) _ (by omega) (by rw [← he]; first | (simp [m_greatL, m_greatS, c25]; done) | simp [m_greatL, m_greatS, e4, c25]) h hR
      · obtain ⟨z, hz, ez⟩ := cO_lt (by omega) q7 c25
        have e4 : ix (S 18 (4 * a + i)) = z := by rw [ez]; exact ix_nI (by omega)
        refine yr_aload_n 29 C dX9_greatestOf_28 rfl rfl rfl ?_
        refine ym_getA 32 C hR dX9_greatestOf_29 fl_X9_40 (by decide) rfl rfl ?_
        refine yr_iload 34 C dX9_greatestOf_32 rfl rfl ?_
        rw [ez]
        refine ym_aldN 35 C hR dX9_greatestOf_34 (by decide) rfl rfl ?_ rfl ?_
        · simp only [mL]; omega
        refine yr_iload_n 36 C dX9_greatestOf_35 rfl rfl ?_
        refine yr_icmp_ge 49 39 C dX9_greatestOf_36 (by decide) rfl (fun c36 => ?_) (fun c36 => ?_)
        · refine yr_iload_n 50 C dX9_greatestOf_49 rfl rfl ?_
          refine yr_istore2 51 C dX9_greatestOf_50 (by decide) rfl ?_
          refine yr_iinc3 54 C (1) dX9_greatestOf_51 rfl (by decide) rfl ?_
          rw [nI_1]
          refine yr_goto 6 C dX9_greatestOf_54 (by decide) ?_
          refine yr_forget4 ?_
          exact ih (i + 1) _ (by omega) (by rw [← he]; first | (simp [m_greatL, m_greatS, c25, c36]; done) | simp [m_greatL, m_greatS, e4, c25, c36]) h hR
        · refine yr_aload_n 40 C dX9_greatestOf_39 rfl rfl rfl ?_
          refine ym_getA 43 C hR dX9_greatestOf_40 fl_X9_40 (by decide) rfl rfl ?_
          refine yr_iload 45 C dX9_greatestOf_43 rfl rfl ?_
          refine ym_aldN 46 C hR dX9_greatestOf_45 (by decide) rfl rfl ?_ rfl ?_
          · simp only [mL]; omega
          refine yr_goto 50 C dX9_greatestOf_46 (by decide) ?_
          refine yr_istore2 51 C dX9_greatestOf_50 (by decide) rfl ?_
          refine yr_iinc3 54 C (1) dX9_greatestOf_51 rfl (by decide) rfl ?_
          rw [nI_1]
          refine yr_goto 6 C dX9_greatestOf_54 (by decide) ?_
          refine yr_forget4 ?_
          exact ih (i + 1) _ (by omega) (by rw [← he]; first | (simp [m_greatL, m_greatS, c25, c36]; done) | simp [m_greatL, m_greatS, e4, c25, c36]) h hR
  exact loop6 4 0 _ rfl rfl h hR
set_option maxHeartbeats 4000000 in
set_option maxRecDepth 100000 in
theorem mc_askedFirst (hZ : yZok D dA Z) (a : Nat) (ha : a < ns) (hB : mB S np ns nd nr t) (h : yH) (hR : yMR dA ad m0 (S) h) : yM Z D yX9_askedFirst cX9_askedFirst 5 (some .int) 0 0 0 [.ref m0, .int (nI a)] h (fun r h' => r = some (.int (m_asked S a)) ∧ yMR dA ad m0 (S) h') := by
  refine yM_of hZ (by decide) rfl (Nat.le_of_ble_eq_true rfl) ?_
  intro p l e s m args below meth c A C hr hin
  show yW p l e (yR 0 0 0) s m args below meth c 5 D A 0 0 _ 0 [some (.ref m0), some (.int (nI a)), none, none, none] [] h
  have k1 : S 17 0 = nI ns ∧ ns ≤ 6 := hB 1
  have k0 : S 1 0 = nI np ∧ np ≤ 8 := hB 0
  refine yr_bipush 2 C (-5) dX9_askedFirst_0 rfl rfl ?_
  refine yr_istore2 3 C dX9_askedFirst_2 (by decide) rfl ?_
  refine yr_iconst 4 C (0) dX9_askedFirst_3 rfl rfl ?_
  refine yr_istore3 5 C dX9_askedFirst_4 (by decide) rfl ?_
  have loop5 : ∀ (j i : Nat) (x : Int32), i + j = 4 → m_askL S a j i x = m_asked S a → ∀ h : yH, yMR dA ad m0 (S) h → yW p l e (yR 0 0 0) s m args below meth c 5 D A 0 0 (yF D A (fun r h' => r = some (.int (m_asked S a)) ∧ yMR dA ad m0 (S) h') below args s 0 0) 5 [some (.ref m0), some (.int (nI a)), some (.int x), some (.int (nI i)), none] [] h := by
    intro j
    induction j with
    | zero =>
      intro i x hij he h hR
      obtain rfl : i = 4 := by omega
      refine yr_iload_n 6 C dX9_askedFirst_5 rfl rfl ?_
      refine yr_iconst 7 C (4) dX9_askedFirst_6 rfl rfl ?_
      refine yr_icmp_ge 66 10 C dX9_askedFirst_7 (by decide) rfl (fun c7 => ?_) (fun c7 => ?_)
      rotate_left
      · exact absurd (by decide) c7
      refine yr_iload_n 67 C dX9_askedFirst_66 rfl rfl ?_
      refine yr_iret C dX9_askedFirst_67 hr (Nat.le_of_ble_eq_true rfl) (Nat.le_of_ble_eq_true rfl) ?_
      exact ⟨by rw [← he]; rfl, hR⟩
    | succ j ih =>
      intro i x hij he h hR
      have q7 : cO (S 18 (4 * a + i)) np := (show ∀ s, s < ns → ∀ k, k < 4 → cO (S 18 (4 * s + k)) np from hB 7) a ha i (by omega)
      refine yr_iload_n 6 C dX9_askedFirst_5 rfl rfl ?_
      refine yr_iconst 7 C (4) dX9_askedFirst_6 rfl rfl ?_
      refine yr_icmp_ge 66 10 C dX9_askedFirst_7 (by decide) rfl (fun c7 => ?_) (fun c7 => ?_)
      · exact absurd c7 (nI_ge (b := 4) (by omega) (by decide))
      refine yr_aload_n 11 C dX9_askedFirst_10 rfl rfl rfl ?_
      refine ym_getA 14 C hR dX9_askedFirst_11 fl_X9_56 (by decide) rfl rfl ?_
      refine yr_iconst 15 C (4) dX9_askedFirst_14 rfl rfl ?_
      refine yr_iload_n 16 C dX9_askedFirst_15 rfl rfl ?_
      refine yr_imul 17 C dX9_askedFirst_16 rfl ?_
      refine yr_iload_n 18 C dX9_askedFirst_17 rfl rfl ?_
      refine yr_iadd 19 C dX9_askedFirst_18 rfl ?_
      rw [show (4 : Int32) * nI a + nI i = nI (4 * a + i) from ixm]
      refine ym_aldN 20 C hR dX9_askedFirst_19 (by decide) rfl rfl ?_ rfl ?_
      · simp only [mL]; omega
      refine yr_istore4 22 C dX9_askedFirst_20 (by decide) rfl ?_
      refine yr_iload 24 C dX9_askedFirst_22 rfl rfl ?_
      refine yr_if_lt 60 27 C dX9_askedFirst_24 (by decide) rfl (fun c24 => ?_) (fun c24 => ?_)
      · refine yr_iinc3 63 C (1) dX9_askedFirst_60 rfl (by decide) rfl ?_
        rw [nI_1]
        refine yr_goto 5 C dX9_askedFirst_63 (by decide) ?_
        refine yr_forget4 ?_
        exact ih (i + 1) _ (by omega) (by rw [← he]; first | (simp [m_askL, m_askS, c24]; done) | simp [m_askL, m_askS, e4, c24]) h hR
      · obtain ⟨z, hz, ez⟩ := cO_lt (by omega) q7 c24
        have e4 : ix (S 18 (4 * a + i)) = z := by rw [ez]; exact ix_nI (by omega)
        refine yr_aload_n 28 C dX9_askedFirst_27 rfl rfl rfl ?_
        refine ym_getA 31 C hR dX9_askedFirst_28 fl_X9_34 (by decide) rfl rfl ?_
        refine yr_iload 33 C dX9_askedFirst_31 rfl rfl ?_
        rw [ez]
        refine ym_aldN 34 C hR dX9_askedFirst_33 (by decide) rfl rfl ?_ rfl ?_
        · simp only [mL]; omega
        refine yr_if_lt 60 37 C dX9_askedFirst_34 (by decide) rfl (fun c34 => ?_) (fun c34 => ?_)
        · refine yr_iinc3 63 C (1) dX9_askedFirst_60 rfl (by decide) rfl ?_
          rw [nI_1]
          refine yr_goto 5 C dX9_askedFirst_63 (by decide) ?_
          refine yr_forget4 ?_
          exact ih (i + 1) _ (by omega) (by rw [← he]; first | (simp [m_askL, m_askS, c24, c34]; done) | simp [m_askL, m_askS, e4, c24, c34]) h hR
        · refine yr_iload_n 38 C dX9_askedFirst_37 rfl rfl ?_
          refine yr_if_lt 52 41 C dX9_askedFirst_38 (by decide) rfl (fun c38 => ?_) (fun c38 => ?_)
          · refine yr_aload_n 53 C dX9_askedFirst_52 rfl rfl rfl ?_
            refine ym_getA 56 C hR dX9_askedFirst_53 fl_X9_34 (by decide) rfl rfl ?_
            refine yr_iload 58 C dX9_askedFirst_56 rfl rfl ?_
            refine ym_aldN 59 C hR dX9_askedFirst_58 (by decide) rfl rfl ?_ rfl ?_
            · simp only [mL]; omega
            refine yr_istore2 60 C dX9_askedFirst_59 (by decide) rfl ?_
            refine yr_iinc3 63 C (1) dX9_askedFirst_60 rfl (by decide) rfl ?_
            rw [nI_1]
            refine yr_goto 5 C dX9_askedFirst_63 (by decide) ?_
            refine yr_forget4 ?_
            exact ih (i + 1) _ (by omega) (by rw [← he]; first | (simp [m_askL, m_askS, c24, c34, c38]; done) | simp [m_askL, m_askS, e4, c24, c34, c38]) h hR
          · refine yr_aload_n 42 C dX9_askedFirst_41 rfl rfl rfl ?_
            refine ym_getA 45 C hR dX9_askedFirst_42 fl_X9_34 (by decide) rfl rfl ?_
            refine yr_iload 47 C dX9_askedFirst_45 rfl rfl ?_
            refine ym_aldN 48 C hR dX9_askedFirst_47 (by decide) rfl rfl ?_ rfl ?_
            · simp only [mL]; omega
            refine yr_iload_n 49 C dX9_askedFirst_48 rfl rfl ?_
            refine yr_icmp_ge 60 52 C dX9_askedFirst_49 (by decide) rfl (fun c49 => ?_) (fun c49 => ?_)
            · refine yr_iinc3 63 C (1) dX9_askedFirst_60 rfl (by decide) rfl ?_
              rw [nI_1]
              refine yr_goto 5 C dX9_askedFirst_63 (by decide) ?_
              refine yr_forget4 ?_
              exact ih (i + 1) _ (by omega) (by rw [← he]; first | (simp [m_askL, m_askS, c24, c34, c38, c49]; done) | simp [m_askL, m_askS, e4, c24, c34, c38, c49]) h hR
            · refine yr_aload_n 53 C dX9_askedFirst_52 rfl rfl rfl ?_
              refine ym_getA 56 C hR dX9_askedFirst_53 fl_X9_34 (by decide) rfl rfl ?_
              refine yr_iload 58 C dX9_askedFirst_56 rfl rfl ?_
              refine ym_aldN 59 C hR dX9_askedFirst_58 (by decide) rfl rfl ?_ rfl ?_
              · simp only [mL]; omega
              refine yr_istore2 60 C dX9_askedFirst_59 (by decide) rfl ?_
              refine yr_iinc3 63 C (1) dX9_askedFirst_60 rfl (by decide) rfl ?_
              rw [nI_1]
              refine yr_goto 5 C dX9_askedFirst_63 (by decide) ?_
              refine yr_forget4 ?_
              exact ih (i + 1) _ (by omega) (by rw [← he]; first | (simp [m_askL, m_askS, c24, c34, c38, c49]; done) | simp [m_askL, m_askS, e4, c24, c34, c38, c49]) h hR
  exact loop5 4 0 _ rfl rfl h hR
set_option maxHeartbeats 4000000 in
set_option maxRecDepth 100000 in
theorem mc_next (hZ : yZok D dA Z)  (hB : mB S np ns nd nr t) (hl : S 38 0 = -1 ∨ ∃ s, s < ns ∧ S 38 0 = nI s) (h : yH) (hR : yMR dA ad m0 (S) h) : yM Z D yX9_next cX9_next 6 (some .int) 1 0 0 [.ref m0] h (fun r h' => r = some (.int (m_next S ns)) ∧ yMR dA ad m0 (S) h') := by
  refine yM_of hZ (by decide) rfl (Nat.le_of_ble_eq_true rfl) ?_
  intro p l e s m args below meth c A C hr hin
  show yW p l e (yR 1 0 0) s m args below meth c 6 D A 0 0 _ 0 [some (.ref m0), none, none, none, none, none] [] h
  have k1 : S 17 0 = nI ns ∧ ns ≤ 6 := hB 1
  have k0 : S 1 0 = nI np ∧ np ≤ 8 := hB 0
  obtain ⟨b, hb, eb, el⟩ := m_lg_eq k1.2 hl
  refine yr_aload_n 1 C dX9_next_0 rfl rfl rfl ?_
  refine ym_get 4 C hR dX9_next_1 fl_X9_102 (by decide) rfl rfl ?_
  refine yr_if_lt 12 7 C dX9_next_4 (by decide) rfl (fun c4 => ?_) (fun c4 => ?_)
  · refine yr_bipush 14 C (-5) dX9_next_12 rfl rfl ?_
    refine yr_istore1 15 C dX9_next_14 (by decide) rfl ?_
    refine yr_iconst 16 C (0) dX9_next_15 rfl rfl ?_
    refine yr_istore2 17 C dX9_next_16 (by decide) rfl ?_
    refine yr_iconst 18 C (1) dX9_next_17 rfl rfl ?_
    refine yr_istore3 19 C dX9_next_18 (by decide) rfl ?_
    have loop19 : ∀ (j i : Nat) (f g : Int32), i + j = ns → m_nextL S ns j i f g = m_nextL S ns ns 0 (-5) 0 → ∀ h : yH, yMR dA ad m0 (S) h → yW p l e (yR 1 0 0) s m args below meth c 6 D A 0 0 (yF D A (fun r h' => r = some (.int (m_next S ns)) ∧ yMR dA ad m0 (S) h') below args s 0 0) 19 [some (.ref m0), some (.int f), some (.int g), some (.int (nI (i + 1))), none, none] [] h := by
      intro j
      induction j with
      | zero =>
        intro i f g hij he h hR
        obtain rfl : i = ns := by omega
        refine yr_iload_n 20 C dX9_next_19 rfl rfl ?_
        refine yr_aload_n 21 C dX9_next_20 rfl rfl rfl ?_
        refine ym_get 24 C hR dX9_next_21 fl_X9_127 (by decide) rfl rfl ?_
        rw [k1.1]
        refine yr_icmp_gt 75 27 C dX9_next_24 (by decide) rfl (fun c24 => ?_) (fun c24 => ?_)
        rotate_left
        · exact absurd (nI_lt (by omega) (by omega)) c24
        refine yr_iload_n 76 C dX9_next_75 rfl rfl ?_
        refine yr_iret C dX9_next_76 hr (Nat.le_of_ble_eq_true rfl) (Nat.le_of_ble_eq_true rfl) ?_
        exact ⟨by simp [m_next, c4, ← he, m_nextL], hR⟩
      | succ j ih =>
        intro i f g hij he h hR
        refine yr_iload_n 20 C dX9_next_19 rfl rfl ?_
        refine yr_aload_n 21 C dX9_next_20 rfl rfl rfl ?_
        refine ym_get 24 C hR dX9_next_21 fl_X9_127 (by decide) rfl rfl ?_
        rw [k1.1]
        refine yr_icmp_gt 75 27 C dX9_next_24 (by decide) rfl (fun c24 => ?_) (fun c24 => ?_)
        · exact absurd c24 (nI_nlt (by omega) (by omega))
        refine yr_aload_n 28 C dX9_next_27 rfl rfl rfl ?_
        refine ym_get 31 C hR dX9_next_28 fl_X9_99 (by decide) rfl rfl ?_
        refine yr_iload_n 32 C dX9_next_31 rfl rfl ?_
        refine yr_iadd 33 C dX9_next_32 rfl ?_
        rw [el]
        refine yr_aload_n 34 C dX9_next_33 rfl rfl rfl ?_
        refine ym_get 37 C hR dX9_next_34 fl_X9_127 (by decide) rfl rfl ?_
        rw [k1.1]
        refine yr_irem 38 C dX9_next_37 ?_ rfl ?_
        · exact nI_ne0 (by omega) (by omega)
        rw [show nI (b + i) - nI (b + i) / nI ns * nI ns = nI ((b + i) % ns) from pk_rem (by omega) (by omega) (by omega)]
        have hmod : (b + i) % ns < ns := Nat.mod_lt _ (by omega)
        refine yr_istore4 40 C dX9_next_38 (by decide) rfl ?_
        refine yr_aload_n 41 C dX9_next_40 rfl rfl rfl ?_
        refine yr_iload 43 C dX9_next_41 rfl rfl ?_
        refine yr_V1v 46 C (mc_askedFirst hZ _ (by omega) hB _ hR) dX9_next_43 mt_X9_askedFirst mv_X9_askedFirst ml_X9_195 hR.1 rfl (Nat.le_of_ble_eq_true rfl) (Nat.le_of_ble_eq_true rfl) (Nat.le_of_ble_eq_true rfl) (Nat.le_of_ble_eq_true rfl) (Nat.le_of_ble_eq_true rfl) rfl (fun h hR => ?_)
        refine yr_istore5 48 C dX9_next_46 (by decide) rfl ?_
        refine yr_iload 50 C dX9_next_48 rfl rfl ?_
        refine yr_if_lt 69 53 C dX9_next_50 (by decide) rfl (fun c50 => ?_) (fun c50 => ?_)
        · refine yr_iinc3 72 C (1) dX9_next_69 rfl (by decide) rfl ?_
          rw [nI_1]
          refine yr_goto 19 C dX9_next_72 (by decide) ?_
          refine yr_forget4 ?_
          refine yr_forget5 ?_
          exact ih (i + 1) _ _ (by omega) (by rw [← he]; simp [m_nextL, eb, c4, c50]) h hR
        · refine yr_iload_n 54 C dX9_next_53 rfl rfl ?_
          refine yr_if_lt 63 57 C dX9_next_54 (by decide) rfl (fun c54 => ?_) (fun c54 => ?_)
          · refine yr_iload 65 C dX9_next_63 rfl rfl ?_
            refine yr_istore1 66 C dX9_next_65 (by decide) rfl ?_
            refine yr_iload 68 C dX9_next_66 rfl rfl ?_
            refine yr_istore2 69 C dX9_next_68 (by decide) rfl ?_
            refine yr_iinc3 72 C (1) dX9_next_69 rfl (by decide) rfl ?_
            rw [nI_1]
            refine yr_goto 19 C dX9_next_72 (by decide) ?_
            refine yr_forget4 ?_
            refine yr_forget5 ?_
            exact ih (i + 1) _ _ (by omega) (by rw [← he]; simp [m_nextL, eb, c4, c50, c54]) h hR
          · refine yr_iload 59 C dX9_next_57 rfl rfl ?_
            refine yr_iload_n 60 C dX9_next_59 rfl rfl ?_
            refine yr_icmp_ge 69 63 C dX9_next_60 (by decide) rfl (fun c60 => ?_) (fun c60 => ?_)
            · refine yr_iinc3 72 C (1) dX9_next_69 rfl (by decide) rfl ?_
              rw [nI_1]
              refine yr_goto 19 C dX9_next_72 (by decide) ?_
              refine yr_forget4 ?_
              refine yr_forget5 ?_
              exact ih (i + 1) _ _ (by omega) (by rw [← he]; simp [m_nextL, eb, c4, c50, c54, c60]) h hR
            · refine yr_iload 65 C dX9_next_63 rfl rfl ?_
              refine yr_istore1 66 C dX9_next_65 (by decide) rfl ?_
              refine yr_iload 68 C dX9_next_66 rfl rfl ?_
              refine yr_istore2 69 C dX9_next_68 (by decide) rfl ?_
              refine yr_iinc3 72 C (1) dX9_next_69 rfl (by decide) rfl ?_
              rw [nI_1]
              refine yr_goto 19 C dX9_next_72 (by decide) ?_
              refine yr_forget4 ?_
              refine yr_forget5 ?_
              exact ih (i + 1) _ _ (by omega) (by rw [← he]; simp [m_nextL, eb, c4, c50, c54, c60]) h hR
    exact loop19 ns 0 _ _ (by omega) rfl h hR
  · refine yr_aload_n 8 C dX9_next_7 rfl rfl rfl ?_
    refine ym_get 11 C hR dX9_next_8 fl_X9_102 (by decide) rfl rfl ?_
    refine yr_iret C dX9_next_11 hr (Nat.le_of_ble_eq_true rfl) (Nat.le_of_ble_eq_true rfl) ?_
    exact ⟨by simp [m_next, c4], hR⟩
end M5
