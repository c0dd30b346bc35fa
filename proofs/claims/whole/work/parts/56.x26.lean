/-! a stage that is in no list yet -/
theorem rfn : va_rf none = Value.null := rfl
theorem rfs (z : Nat) : va_rf (some z) = Value.ref z := rfl
def SWp (dA : Nat → ClassId) (a q7 : Nat) (x : Value) (f : Nat → Option Nat) (h : yH) : Prop := h a = some (.inr (8, [x, .ref q7])) ∧ h q7 = some (.inl (dA 4, 4, yQ f))
def hasR (f : Nat → Option Nat) (y : Nat) : Nat → Nat → Bool
  | 0, _ => false
  | j + 1, i => if f i = some y then true else hasR f y j (i + 1)
def emR (f : Nat → Option Nat) : Nat → Nat → Bool
  | 0, _ => true
  | j + 1, i => if f i = none then emR f j (i + 1) else false
def cf1 (S : yS) (x y : Int32) : Bool := !decide (x < 0) && (!decide (y < 0) && !decide (xCl S (ix x) (ix y) = -5))
def cfI (S : yS) (F : Nat → Int32) (i : Nat) : Nat → Nat → Bool
  | 0, _ => false
  | j + 1, k => if cf1 S (F i) (F k) = true then true else cfI S F i j (k + 1)
def cfO (S : yS) (F : Nat → Int32) : Nat → Nat → Bool
  | 0, _ => false
  | j + 1, i => if cfI S F i 4 0 = true then true else cfO S F j (i + 1)
section X26
variable {D : va_G} {dA : Nat → ClassId} {t0 mi : Nat} {S : yS} {lf mc : Nat → Int32} {cap : Nat → Nat} {B : Nat → Nat → Nat} {N : Nat → Nat}
variable {t : Nat}
set_option maxHeartbeats 4000000 in
set_option maxRecDepth 100000 in
theorem xp_clearingTo (z y : Nat) (hz : z < N 0) (hy : y < N 0) (h8 : N 0 ≤ 8)  (h : yH) (hR : RX dA t0 (S) lf mc cap B N h) : yM (yZ t0 mi D dA) D yX6_clearingTo cX6_clearingTo 3 (some .int) 0 0 0 [.ref (B 3 z), .ref (B 3 y)] h (fun r h' => r = some (.int (xCl S z y)) ∧ h' = h) := by
  refine yM_of (yZ_ok t0 mi D dA) (by decide) rfl (Nat.le_of_ble_eq_true rfl) ?_
  intro p l e s m args below meth c A C hr hin
  show yW p l e (yR 0 0 0) s m args below meth c 3 D A 0 0 _ 0 [some (.ref (B 3 z)), some (.ref (B 3 y)), none] [] h
  refine yr_aload_n 1 C dX6_clearingTo_0 rfl rfl rfl ?_
  refine yr_get 4 C dX6_clearingTo_1 fl_X6_63 (rx3 hR hy) rfl rfl ?_
  refine yr_istore2 5 C dX6_clearingTo_4 (by decide) rfl ?_
  refine yr_iload_n 6 C dX6_clearingTo_5 rfl rfl ?_
  refine yr_if_lt 27 9 C  dX6_clearingTo_6 (by decide) rfl (fun c6 => ?_) (fun c6 => ?_)
  · exact absurd c6 (nI_pos (by omega))
  refine yr_iload_n 10 C dX6_clearingTo_9 rfl rfl ?_
  refine yr_aload_n 11 C dX6_clearingTo_10 rfl rfl rfl ?_
  refine yr_get 14 C dX6_clearingTo_11 fl_X6_9 (rx3 hR hz) rfl rfl ?_
  refine yr_alen 15 0 C (8) dX6_clearingTo_14 (rx4 hR hz) rfl rfl rfl ?_
  refine yr_icmp_ge 27 18 C  dX6_clearingTo_15 (by decide) rfl (fun c15 => ?_) (fun c15 => ?_)
  · exact absurd c15 (nI_ge (b := 8) (by omega) (by decide))
  refine yr_aload_n 19 C dX6_clearingTo_18 rfl rfl rfl ?_
  refine yr_get 22 C dX6_clearingTo_19 fl_X6_9 (rx3 hR hz) rfl rfl ?_
  refine yr_iload_n 23 C dX6_clearingTo_22 rfl rfl ?_
  refine xx_iald 24 C (xCl S z y) dX6_clearingTo_23 (rx4 hR hz) ?_ (by decide) (if_pos (show y < 8 by omega)) rfl ?_
  · omega
  refine yr_goto 29 C dX6_clearingTo_24 (by decide) ?_
  refine yr_iret C dX6_clearingTo_29 hr (Nat.le_of_ble_eq_true rfl) (Nat.le_of_ble_eq_true rfl) ?_
  exact ⟨rfl, rfl⟩
set_option maxHeartbeats 4000000 in
set_option maxRecDepth 100000 in
theorem xp_phaseAt (q : Int32) (hN : S 1 0 = nI (N 0) ∧ N 0 ≤ 8) (h : yH) (hR : RX dA t0 (S) lf mc cap B N h) : yM (yZ t0 mi D dA) D yX8_phaseAt cX8_phaseAt 2 (some (.object "CrossingKeeper$Phase")) 3 0 0 [.ref (B 0 0), .int q] h (fun r h' => r = some (va_rf (if m_isP S q then some (B 3 (ix q)) else none)) ∧ h' = h) := by
  refine yM_of (yZ_ok t0 mi D dA) (by decide) rfl (Nat.le_of_ble_eq_true rfl) ?_
  intro p l e s m args below meth c A C hr hin
  show yW p l e (yR 3 0 0) s m args below meth c 2 D A 0 0 _ 0 [some (.ref (B 0 0)), some (.int q)] [] h
  refine yr_iload_n 1 C dX8_phaseAt_0 rfl rfl ?_
  refine yr_if_lt 29 4 C  dX8_phaseAt_1 (by decide) rfl (fun c1 => ?_) (fun c1 => ?_)
  · refine yr_null 30 C dX8_phaseAt_29 rfl ?_
    refine yr_aret C dX8_phaseAt_30 hr (Or.inl ⟨_, rfl⟩) rfl (Nat.le_of_ble_eq_true rfl) (Nat.le_of_ble_eq_true rfl) ?_
    refine ⟨?_, rfl⟩
    have e : m_isP S q = false := m_in_neg c1
    rw [e]
    rfl
  · refine yr_iload_n 5 C dX8_phaseAt_4 rfl rfl ?_
    refine yr_aload_n 6 C dX8_phaseAt_5 rfl rfl rfl ?_
    refine yr_get 9 C dX8_phaseAt_6 fl_X8_10 (rx0 hR) rfl rfl ?_
    refine yr_V0v 12 C (jl_size (show 0 < 5 by decide) _ hR) dX8_phaseAt_9 mt_Jx4a65c_size_8abf5 mv_Jx4a65c_size_8abf5 ml_X8_75 (rx1 hR (show 0 < 5 by decide)) rfl (Nat.le_of_ble_eq_true rfl) (Nat.le_of_ble_eq_true rfl) (Nat.le_of_ble_eq_true rfl) (Nat.le_of_ble_eq_true rfl) (Nat.le_of_ble_eq_true rfl) rfl (fun h e => ?_)
    subst e
    refine yr_icmp_ge 29 15 C  dX8_phaseAt_12 (by decide) rfl (fun c12 => ?_) (fun c12 => ?_)
    · refine yr_null 30 C dX8_phaseAt_29 rfl ?_
      refine yr_aret C dX8_phaseAt_30 hr (Or.inl ⟨_, rfl⟩) rfl (Nat.le_of_ble_eq_true rfl) (Nat.le_of_ble_eq_true rfl) ?_
      refine ⟨?_, rfl⟩
      obtain ⟨j, hj0, rfl⟩ := nI_of c1
      have e : m_isP S (nI j) = false := by
        unfold m_isP
        rw [hN.1]
        exact m_in_not (by omega) hj0 ((nI_leI (by omega) hj0).mp c12)
      rw [e]
      rfl
    · obtain ⟨j, hj0, rfl⟩ := nI_of c1
      have hj : j < N 0 := by
        rcases Nat.lt_or_ge j (N 0) with q | q
        · exact q
        · exact absurd (nI_le q hj0) c12
      refine yr_aload_n 16 C dX8_phaseAt_15 rfl rfl rfl ?_
      refine yr_get 19 C dX8_phaseAt_16 fl_X8_10 (rx0 hR) rfl rfl ?_
      refine yr_iload_n 20 C dX8_phaseAt_19 rfl rfl ?_
      refine yr_V1v 23 C (jl_get (show 0 < 5 by decide) hj _ hR) dX8_phaseAt_20 mt_Jx4a65c_get_915e3 mv_Jx4a65c_get_915e3 ml_X8_99 (rx1 hR (show 0 < 5 by decide)) rfl (Nat.le_of_ble_eq_true rfl) (Nat.le_of_ble_eq_true rfl) (Nat.le_of_ble_eq_true rfl) (Nat.le_of_ble_eq_true rfl) (Nat.le_of_ble_eq_true rfl) rfl (fun h e => ?_)
      subst e
      refine yr_cast 26 C dX8_phaseAt_23 (rx3 hR hj) rfl cl_X8_79 rfl ?_
      refine yr_goto 30 C dX8_phaseAt_26 (by decide) ?_
      refine yr_aret C dX8_phaseAt_30 hr (Or.inl ⟨_, rfl⟩) rfl (Nat.le_of_ble_eq_true rfl) (Nat.le_of_ble_eq_true rfl) ?_
      refine ⟨?_, rfl⟩
      have e : m_isP S (nI j) = true := by
        unfold m_isP
        rw [hN.1]
        exact m_in_of (by omega) hj
      rw [e, ix_nI hj0]
      rfl
set_option maxHeartbeats 4000000 in
set_option maxRecDepth 100000 in
theorem xr_hasPhase (a q7 y : Nat) (x : Value) (f : Nat → Option Nat) (h : yH) (hR : SWp dA a q7 x f h) : yM (yZ t0 mi D dA) D yX7_hasPhase cX7_hasPhase 6 (some .boolean) 0 0 0 [.ref a, .ref y] h (fun r h' => r = some (.int (bI (hasR f y 4 0))) ∧ h' = h) := by
  refine yM_of (yZ_ok t0 mi D dA) (by decide) rfl (Nat.le_of_ble_eq_true rfl) ?_
  intro p l e s m args below meth c A C hr hin
  show yW p l e (yR 0 0 0) s m args below meth c 6 D A 0 0 _ 0 [some (.ref a), some (.ref y), none, none, none, none] [] h
  refine yr_aload_n 1 C dX7_hasPhase_0 rfl rfl rfl ?_
  refine yr_get 4 C dX7_hasPhase_1 fl_X7_11 hR.1 rfl rfl ?_
  refine yr_astore2 5 C dX7_hasPhase_4 rfl (by decide) rfl ?_
  refine yr_aload_n 6 C dX7_hasPhase_5 rfl rfl rfl ?_
  refine yr_alen 7 4 C (4) dX7_hasPhase_6 hR.2 rfl rfl rfl ?_
  refine yr_istore3 8 C dX7_hasPhase_7 (by decide) rfl ?_
  refine yr_iconst 9 C (0) dX7_hasPhase_8 rfl rfl ?_
  refine yr_istore4 11 C dX7_hasPhase_9 (by decide) rfl ?_
  have loop11 : ∀ (j i : Nat) , i + j = 4 → hasR f y j i = hasR f y 4 0 → ∀ h : yH, SWp dA a q7 x f h → yW p l e (yR 0 0 0) s m args below meth c 6 D A 0 0 (yF D A (fun r h' => r = some (.int (bI (hasR f y 4 0))) ∧ h' = h) below args s 0 0) 11 [some (.ref a), some (.ref y), some (.ref q7), some (.int 4), some (.int (nI i)), none] [] h := by
    intro j
    induction j with
    | zero =>
      intro i  hij he h hR
      refine yr_iload 13 C dX7_hasPhase_11 rfl rfl ?_
      refine yr_iload_n 14 C dX7_hasPhase_13 rfl rfl ?_
      refine yr_icmp_ge 42 17 C  dX7_hasPhase_14 (by decide) rfl (fun c14 => ?_) (fun c14 => ?_)
      rotate_left
      · exact absurd (by rw [show i = 4 by omega]; decide) c14
      refine yr_iconst 43 C (0) dX7_hasPhase_42 rfl rfl ?_
      refine yr_zret C dX7_hasPhase_43 hr ?_ (Nat.le_of_ble_eq_true rfl) (Nat.le_of_ble_eq_true rfl) ?_
      · first | exact bI_or _ | exact Or.inl rfl | exact Or.inr rfl
      refine ⟨?_, rfl⟩
      rw [← he]
      rfl
    | succ j ih =>
      intro i  hij he h hR
      refine yr_iload 13 C dX7_hasPhase_11 rfl rfl ?_
      refine yr_iload_n 14 C dX7_hasPhase_13 rfl rfl ?_
      refine yr_icmp_ge 42 17 C  dX7_hasPhase_14 (by decide) rfl (fun c14 => ?_) (fun c14 => ?_)
      · exact absurd c14 (nI_ge (b := 4) (by omega) (by decide))
      refine yr_aload_n 18 C dX7_hasPhase_17 rfl rfl rfl ?_
      refine yr_iload 20 C dX7_hasPhase_18 rfl rfl ?_
      refine yr_aald 21 4 C dX7_hasPhase_20 rfl hR.2 (by omega) (by decide) rfl ?_
      rcases hf : f i with _ | z
      · rw [rfn]
        refine yr_astore5 23 C dX7_hasPhase_21 rfl (by decide) rfl ?_
        refine yr_aload 25 C dX7_hasPhase_23 rfl rfl rfl ?_
        refine yr_ifnull_n 36 C dX7_hasPhase_25 (by decide) ?_
        refine yr_iinc4 39 C (1) dX7_hasPhase_36 rfl (by decide) rfl ?_
        rw [nI_1]
        refine yr_goto 11 C dX7_hasPhase_39 (by decide) ?_
        refine yr_forget5 ?_
        exact ih (i + 1) (by omega) (by rw [← he]; simp [hasR, hf]) h hR
      · rw [rfs]
        refine yr_astore5 23 C dX7_hasPhase_21 rfl (by decide) rfl ?_
        refine yr_aload 25 C dX7_hasPhase_23 rfl rfl rfl ?_
        refine yr_ifnull_r 28 C dX7_hasPhase_25 rfl ?_
        refine yr_aload 30 C dX7_hasPhase_28 rfl rfl rfl ?_
        refine yr_aload_n 31 C dX7_hasPhase_30 rfl rfl rfl ?_
        refine yr_acmp_ne 36 34 C (x := some z) (y := some y) dX7_hasPhase_31 (by decide) rfl (fun c31 => ?_) (fun c31 => ?_)
        · refine yr_iinc4 39 C (1) dX7_hasPhase_36 rfl (by decide) rfl ?_
          rw [nI_1]
          refine yr_goto 11 C dX7_hasPhase_39 (by decide) ?_
          have c32 : ¬ z = y := fun q => c31 (by rw [q])
          refine yr_forget5 ?_
          exact ih (i + 1) (by omega) (by rw [← he]; simp [hasR, hf, c32]) h hR
        · refine yr_iconst 35 C (1) dX7_hasPhase_34 rfl rfl ?_
          refine yr_zret C dX7_hasPhase_35 hr ?_ (Nat.le_of_ble_eq_true rfl) (Nat.le_of_ble_eq_true rfl) ?_
          · first | exact bI_or _ | exact Or.inl rfl | exact Or.inr rfl
          refine ⟨?_, rfl⟩
          rw [← he]
          simp [hasR, hf, Option.some.inj c31, bI]
  exact loop11 4 0 rfl rfl h hR
set_option maxHeartbeats 4000000 in
set_option maxRecDepth 100000 in
theorem xr_isEmpty (a q7 : Nat) (x : Value) (f : Nat → Option Nat) (h : yH) (hR : SWp dA a q7 x f h) : yM (yZ t0 mi D dA) D yX7_isEmpty cX7_isEmpty 5 (some .boolean) 0 0 0 [.ref a] h (fun r h' => r = some (.int (bI (emR f 4 0))) ∧ h' = h) := by
  refine yM_of (yZ_ok t0 mi D dA) (by decide) rfl (Nat.le_of_ble_eq_true rfl) ?_
  intro p l e s m args below meth c A C hr hin
  show yW p l e (yR 0 0 0) s m args below meth c 5 D A 0 0 _ 0 [some (.ref a), none, none, none, none] [] h
  refine yr_aload_n 1 C dX7_isEmpty_0 rfl rfl rfl ?_
  refine yr_get 4 C dX7_isEmpty_1 fl_X7_11 hR.1 rfl rfl ?_
  refine yr_astore1 5 C dX7_isEmpty_4 rfl (by decide) rfl ?_
  refine yr_aload_n 6 C dX7_isEmpty_5 rfl rfl rfl ?_
  refine yr_alen 7 4 C (4) dX7_isEmpty_6 hR.2 rfl rfl rfl ?_
  refine yr_istore2 8 C dX7_isEmpty_7 (by decide) rfl ?_
  refine yr_iconst 9 C (0) dX7_isEmpty_8 rfl rfl ?_
  refine yr_istore3 10 C dX7_isEmpty_9 (by decide) rfl ?_
  have loop10 : ∀ (j i : Nat) , i + j = 4 → emR f j i = emR f 4 0 → ∀ h : yH, SWp dA a q7 x f h → yW p l e (yR 0 0 0) s m args below meth c 5 D A 0 0 (yF D A (fun r h' => r = some (.int (bI (emR f 4 0))) ∧ h' = h) below args s 0 0) 10 [some (.ref a), some (.ref q7), some (.int 4), some (.int (nI i)), none] [] h := by
    intro j
    induction j with
    | zero =>
      intro i  hij he h hR
      refine yr_iload_n 11 C dX7_isEmpty_10 rfl rfl ?_
      refine yr_iload_n 12 C dX7_isEmpty_11 rfl rfl ?_
      refine yr_icmp_ge 33 15 C  dX7_isEmpty_12 (by decide) rfl (fun c12 => ?_) (fun c12 => ?_)
      rotate_left
      · exact absurd (by rw [show i = 4 by omega]; decide) c12
      refine yr_iconst 34 C (1) dX7_isEmpty_33 rfl rfl ?_
      refine yr_zret C dX7_isEmpty_34 hr ?_ (Nat.le_of_ble_eq_true rfl) (Nat.le_of_ble_eq_true rfl) ?_
      · first | exact bI_or _ | exact Or.inl rfl | exact Or.inr rfl
      refine ⟨?_, rfl⟩
      rw [← he]
      rfl
    | succ j ih =>
      intro i  hij he h hR
      refine yr_iload_n 11 C dX7_isEmpty_10 rfl rfl ?_
      refine yr_iload_n 12 C dX7_isEmpty_11 rfl rfl ?_
      refine yr_icmp_ge 33 15 C  dX7_isEmpty_12 (by decide) rfl (fun c12 => ?_) (fun c12 => ?_)
      · exact absurd c12 (nI_ge (b := 4) (by omega) (by decide))
      refine yr_aload_n 16 C dX7_isEmpty_15 rfl rfl rfl ?_
      refine yr_iload_n 17 C dX7_isEmpty_16 rfl rfl ?_
      refine yr_aald 18 4 C dX7_isEmpty_17 rfl hR.2 (by omega) (by decide) rfl ?_
      rcases hf : f i with _ | z
      · rw [rfn]
        refine yr_astore4 20 C dX7_isEmpty_18 rfl (by decide) rfl ?_
        refine yr_aload 22 C dX7_isEmpty_20 rfl rfl rfl ?_
        refine yr_ifnull_n 27 C dX7_isEmpty_22 (by decide) ?_
        refine yr_iinc3 30 C (1) dX7_isEmpty_27 rfl (by decide) rfl ?_
        rw [nI_1]
        refine yr_goto 10 C dX7_isEmpty_30 (by decide) ?_
        refine yr_forget4 ?_
        exact ih (i + 1) (by omega) (by rw [← he]; simp [emR, hf]) h hR
      · rw [rfs]
        refine yr_astore4 20 C dX7_isEmpty_18 rfl (by decide) rfl ?_
        refine yr_aload 22 C dX7_isEmpty_20 rfl rfl rfl ?_
        refine yr_ifnull_r 25 C dX7_isEmpty_22 rfl ?_
        refine yr_iconst 26 C (0) dX7_isEmpty_25 rfl rfl ?_
        refine yr_zret C dX7_isEmpty_26 hr ?_ (Nat.le_of_ble_eq_true rfl) (Nat.le_of_ble_eq_true rfl) ?_
        · first | exact bI_or _ | exact Or.inl rfl | exact Or.inr rfl
        refine ⟨?_, rfl⟩
        rw [← he]
        simp [emR, hf, bI]
  exact loop10 4 0 rfl rfl h hR

set_option maxHeartbeats 4000000 in
set_option maxRecDepth 100000 in
theorem xr_putPhase (a q7 y k : Nat) (hk : k < 4) (x : Value) (f : Nat → Option Nat) (vs : List Value) (h : yH) (hR : SWp dA a q7 x f h ∧ h y = some (.inr (7, vs))) : yM (yZ t0 mi D dA) D yX7_putPhase cX7_putPhase 3 none 0 0 0 [.ref a, .int (nI k), .ref y] h (fun r h' => r = none ∧ h' = va_up h q7 (some (.inl (dA 4, 4, yQ (va_up f k (some y)))))) := by
  refine yM_of (yZ_ok t0 mi D dA) (by decide) rfl (Nat.le_of_ble_eq_true rfl) ?_
  intro p l e s m args below meth c A C hr hin
  show yW p l e (yR 0 0 0) s m args below meth c 3 D A 0 0 _ 0 [some (.ref a), some (.int (nI k)), some (.ref y)] [] h
  refine yr_iload_n 1 C dX7_putPhase_0 rfl rfl ?_
  refine yr_if_lt 20 4 C  dX7_putPhase_1 (by decide) rfl (fun c1 => ?_) (fun c1 => ?_)
  · exact absurd c1 (nI_pos (by omega))
  refine yr_iload_n 5 C dX7_putPhase_4 rfl rfl ?_
  refine yr_aload_n 6 C dX7_putPhase_5 rfl rfl rfl ?_
  refine yr_get 9 C dX7_putPhase_6 fl_X7_11 hR.1.1 rfl rfl ?_
  refine yr_alen 10 4 C (4) dX7_putPhase_9 hR.1.2 rfl rfl rfl ?_
  refine yr_icmp_ge 20 13 C  dX7_putPhase_10 (by decide) rfl (fun c10 => ?_) (fun c10 => ?_)
  · exact absurd c10 (nI_ge (b := 4) hk (by decide))
  refine yr_aload_n 14 C dX7_putPhase_13 rfl rfl rfl ?_
  refine yr_get 17 C dX7_putPhase_14 fl_X7_11 hR.1.1 rfl rfl ?_
  refine yr_iload_n 18 C dX7_putPhase_17 rfl rfl ?_
  refine yr_aload_n 19 C dX7_putPhase_18 rfl rfl rfl ?_
  refine yr_aastO 20 4 C dX7_putPhase_19 rfl hR.1.2 hR.2 rfl (Or.inr rfl) hk (by decide) rfl ?_
  refine yr_vret C dX7_putPhase_20 hr (Nat.le_of_ble_eq_true rfl) (Nat.le_of_ble_eq_true rfl) ?_
  exact ⟨rfl, rfl⟩
set_option maxHeartbeats 4000000 in
set_option maxRecDepth 100000 in
theorem xr_hasConflict (a q7 : Nat) (x : Value) (F : Nat → Int32) (hF : ∀ k, k < 4 → cO (F k) (N 0)) (h8 : N 0 ≤ 8) (h : yH) (hR : RX dA t0 S lf mc cap B N h ∧ SWp dA a q7 x (fun k => xr (B 3) (F k)) h) : yM (yZ t0 mi D dA) D yX7_hasConflict cX7_hasConflict 9 (some .boolean) 1 0 0 [.ref a] h (fun r h' => r = some (.int (bI (cfO S F 4 0))) ∧ h' = h) := by
  refine yM_of (yZ_ok t0 mi D dA) (by decide) rfl (Nat.le_of_ble_eq_true rfl) ?_
  intro p l e s m args below meth c A C hr hin
  show yW p l e (yR 1 0 0) s m args below meth c 9 D A 0 0 _ 0 [some (.ref a), none, none, none, none, none, none, none, none] [] h
  refine yr_aload_n 1 C dX7_hasConflict_0 rfl rfl rfl ?_
  refine yr_get 4 C dX7_hasConflict_1 fl_X7_11 hR.2.1 rfl rfl ?_
  refine yr_astore1 5 C dX7_hasConflict_4 rfl (by decide) rfl ?_
  refine yr_aload_n 6 C dX7_hasConflict_5 rfl rfl rfl ?_
  refine yr_alen 7 4 C (4) dX7_hasConflict_6 hR.2.2 rfl rfl rfl ?_
  refine yr_istore2 8 C dX7_hasConflict_7 (by decide) rfl ?_
  refine yr_iconst 9 C (0) dX7_hasConflict_8 rfl rfl ?_
  refine yr_istore3 10 C dX7_hasConflict_9 (by decide) rfl ?_
  have loop10 : ∀ (j i : Nat) , i + j = 4 → cfO S F j i = cfO S F 4 0 → ∀ h : yH, RX dA t0 S lf mc cap B N h ∧ SWp dA a q7 x (fun k => xr (B 3) (F k)) h → yW p l e (yR 1 0 0) s m args below meth c 9 D A 0 0 (yF D A (fun r h' => r = some (.int (bI (cfO S F 4 0))) ∧ h' = h) below args s 0 0) 10 [some (.ref a), some (.ref q7), some (.int 4), some (.int (nI i)), none, none, none, none, none] [] h := by
    intro j
    induction j with
    | zero =>
      intro i  hij he h hR
      refine yr_iload_n 11 C dX7_hasConflict_10 rfl rfl ?_
      refine yr_iload_n 12 C dX7_hasConflict_11 rfl rfl ?_
      refine yr_icmp_ge 84 15 C  dX7_hasConflict_12 (by decide) rfl (fun c12 => ?_) (fun c12 => ?_)
      rotate_left
      · exact absurd (by rw [show i = 4 by omega]; decide) c12
      refine yr_iconst 85 C (0) dX7_hasConflict_84 rfl rfl ?_
      refine yr_zret C dX7_hasConflict_85 hr ?_ (Nat.le_of_ble_eq_true rfl) (Nat.le_of_ble_eq_true rfl) ?_
      · first | exact bI_or _ | exact Or.inl rfl | exact Or.inr rfl
      refine ⟨?_, rfl⟩
      rw [← he]
      rfl
    | succ j ih =>
      intro i  hij he h hR
      refine yr_iload_n 11 C dX7_hasConflict_10 rfl rfl ?_
      refine yr_iload_n 12 C dX7_hasConflict_11 rfl rfl ?_
      refine yr_icmp_ge 84 15 C  dX7_hasConflict_12 (by decide) rfl (fun c12 => ?_) (fun c12 => ?_)
      · exact absurd c12 (nI_ge (b := 4) (by omega) (by decide))
      refine yr_aload_n 16 C dX7_hasConflict_15 rfl rfl rfl ?_
      refine yr_iload_n 17 C dX7_hasConflict_16 rfl rfl ?_
      refine yr_aald 18 4 C dX7_hasConflict_17 rfl hR.2.2 (by omega) (by decide) rfl ?_
      refine yr_astore4 20 C dX7_hasConflict_18 (yd_isref_rf _) (by decide) rfl ?_
      refine yr_aload_n 21 C dX7_hasConflict_20 rfl rfl rfl ?_
      refine yr_get 24 C dX7_hasConflict_21 fl_X7_11 hR.2.1 rfl rfl ?_
      refine yr_astore5 26 C dX7_hasConflict_24 rfl (by decide) rfl ?_
      refine yr_aload 28 C dX7_hasConflict_26 rfl rfl rfl ?_
      refine yr_alen 29 4 C (4) dX7_hasConflict_28 hR.2.2 rfl rfl rfl ?_
      refine yr_istore6 31 C dX7_hasConflict_29 (by decide) rfl ?_
      refine yr_iconst 32 C (0) dX7_hasConflict_31 rfl rfl ?_
      refine yr_istore7 34 C dX7_hasConflict_32 (by decide) rfl ?_
      have inner : ∀ (j2 i2 : Nat) , i2 + j2 = 4 → cfI S F i j2 i2 = cfI S F i 4 0 → ∀ h : yH, RX dA t0 S lf mc cap B N h ∧ SWp dA a q7 x (fun k => xr (B 3) (F k)) h → yW p l e (yR 1 0 0) s m args below meth c 9 D A 0 0 (yF D A (fun r h' => r = some (.int (bI (cfO S F 4 0))) ∧ h' = h) below args s 0 0) 34 [some (.ref a), some (.ref q7), some (.int 4), some (.int (nI i)), some (va_rf (xr (B 3) (F i))), some (.ref q7), some (.int 4), some (.int (nI i2)), none] [] h := by
        intro j2
        induction j2 with
        | zero =>
          intro i2  hij2 hf h hR
          refine yr_iload 36 C dX7_hasConflict_34 rfl rfl ?_
          refine yr_iload 38 C dX7_hasConflict_36 rfl rfl ?_
          refine yr_icmp_ge 78 41 C  dX7_hasConflict_38 (by decide) rfl (fun c38 => ?_) (fun c38 => ?_)
          rotate_left
          · exact absurd (by rw [show i2 = 4 by omega]; decide) c38
          refine yr_iinc3 81 C (1) dX7_hasConflict_78 rfl (by decide) rfl ?_
          rw [nI_1]
          refine yr_goto 10 C dX7_hasConflict_81 (by decide) ?_
          have q2 : cfI S F i 4 0 = false := hf.symm
          refine yr_forget4 (yr_forget5 (yr_forget6 (yr_forget7 ?_)))
          exact ih (i + 1) (by omega) (by rw [← he]; simp [cfO, q2]) h hR
        | succ j2 ih2 =>
          intro i2  hij2 hf h hR
          refine yr_iload 36 C dX7_hasConflict_34 rfl rfl ?_
          refine yr_iload 38 C dX7_hasConflict_36 rfl rfl ?_
          refine yr_icmp_ge 78 41 C  dX7_hasConflict_38 (by decide) rfl (fun c38 => ?_) (fun c38 => ?_)
          · exact absurd c38 (nI_ge (b := 4) (by omega) (by decide))
          refine yr_aload 43 C dX7_hasConflict_41 rfl rfl rfl ?_
          refine yr_iload 45 C dX7_hasConflict_43 rfl rfl ?_
          refine yr_aald 46 4 C dX7_hasConflict_45 rfl hR.2.2 (by omega) (by decide) rfl ?_
          refine yr_astore8 48 C dX7_hasConflict_46 (yd_isref_rf _) (by decide) rfl ?_
          refine yr_aload 50 C dX7_hasConflict_48 rfl (yd_isref_rf _) rfl ?_
          rcases xr_cases (f := B 3) (by omega) (hF i (by omega)) with ⟨u1, u2⟩ | ⟨z, hz, u1, u2⟩
          · rw [u2]
            refine yr_ifnull_n 72 C dX7_hasConflict_50 (by decide) ?_
            refine yr_iinc7 75 C (1) dX7_hasConflict_72 rfl (by decide) rfl ?_
            rw [nI_1]
            refine yr_goto 34 C dX7_hasConflict_75 (by decide) ?_
            have q1 : cf1 S (F i) (F i2) = false := by simp [cf1, u1]
            rw [← u2]
            refine yr_forget8 ?_
            exact ih2 (i2 + 1) (by omega) (by rw [← hf]; simp [cfI, q1]) h hR
          · rw [u2]
            refine yr_ifnull_r 53 C dX7_hasConflict_50 rfl ?_
            refine yr_aload 55 C dX7_hasConflict_53 rfl (yd_isref_rf _) rfl ?_
            rcases xr_cases (f := B 3) (by omega) (hF i2 (by omega)) with ⟨v1, v2⟩ | ⟨y, hy, v1, v2⟩
            · rw [v2]
              refine yr_ifnull_n 72 C dX7_hasConflict_55 (by decide) ?_
              refine yr_iinc7 75 C (1) dX7_hasConflict_72 rfl (by decide) rfl ?_
              rw [nI_1]
              refine yr_goto 34 C dX7_hasConflict_75 (by decide) ?_
              have q1 : cf1 S (F i) (F i2) = false := by simp [cf1, v1]
              refine yr_forget8 ?_
              rw [← u2]
              exact ih2 (i2 + 1) (by omega) (by rw [← hf]; simp [cfI, q1]) h hR
            · rw [v2]
              refine yr_ifnull_r 58 C dX7_hasConflict_55 rfl ?_
              refine yr_aload 60 C dX7_hasConflict_58 rfl (yd_isref_rf _) rfl ?_
              refine yr_aload 62 C dX7_hasConflict_60 rfl (yd_isref_rf _) rfl ?_
              refine yr_V1v 65 C (xp_clearingTo z y hz hy h8 _ hR.1) dX7_hasConflict_62 mt_X6_clearingTo mv_X6_clearingTo ml_X7_21 (rx3 hR.1 hz) rfl (Nat.le_of_ble_eq_true rfl) (Nat.le_of_ble_eq_true rfl) (Nat.le_of_ble_eq_true rfl) (Nat.le_of_ble_eq_true rfl) (Nat.le_of_ble_eq_true rfl) rfl (fun h e => ?_)
              subst e
              refine yr_bipush 67 C (-5) dX7_hasConflict_65 rfl rfl ?_
              refine yr_icmp_eq 72 70 C  dX7_hasConflict_67 (by decide) rfl (fun c67 => ?_) (fun c67 => ?_)
              · refine yr_iinc7 75 C (1) dX7_hasConflict_72 rfl (by decide) rfl ?_
                rw [nI_1]
                refine yr_goto 34 C dX7_hasConflict_75 (by decide) ?_
                have q1 : cf1 S (F i) (F i2) = false := by simp [cf1, u1, v1, ix_nI (show z < 2 ^ 31 by omega), ix_nI (show y < 2 ^ 31 by omega), c67]
                refine yr_forget8 ?_
                rw [← u2]
                exact ih2 (i2 + 1) (by omega) (by rw [← hf]; simp [cfI, q1]) h hR
              · refine yr_iconst 71 C (1) dX7_hasConflict_70 rfl rfl ?_
                refine yr_zret C dX7_hasConflict_71 hr ?_ (Nat.le_of_ble_eq_true rfl) (Nat.le_of_ble_eq_true rfl) ?_
                · first | exact bI_or _ | exact Or.inl rfl | exact Or.inr rfl
                have q1 : cf1 S (F i) (F i2) = true := by simp [cf1, u1, v1, ix_nI (show z < 2 ^ 31 by omega), ix_nI (show y < 2 ^ 31 by omega), c67, nI_pos (show z < 2 ^ 31 by omega), nI_pos (show y < 2 ^ 31 by omega)]
                have q2 : cfI S F i 4 0 = true := by rw [← hf]; simp [cfI, q1]
                refine ⟨?_, rfl⟩
                rw [← he]
                simp [cfO, q2, bI]
      exact inner 4 0 rfl rfl h hR
  exact loop10 4 0 rfl rfl h hR
end X26
