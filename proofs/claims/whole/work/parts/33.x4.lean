def xCar (a b : Int32) : Bool := decide (0 < a) || !decide (b < 5000)
def xTurn (S : yS) (a b : Int32) : Bool × yS := if 2000 ≤ b then (true, m_tr S 10) else (xCar a b, m_tr (m_tr S 10) 1)
def xAsk (S : yS) (k a b : Int32) : Bool × yS := if k = 0 then (xCar a b, m_tr S 1) else if k = 1 then xTurn S a b else if k = 2 then (!decide (a ≤ 0), m_tr S 100) else if k = 3 then (!decide (a = 0), m_tr S 1000) else (false, S)
def xHold (S : yS) (k a : Int32) : Bool × yS := if k = 0 then (!decide (a ≤ 0), m_tr S 5) else if k = 1 then (!decide (a ≤ 0), m_tr S 5) else if k = 2 then (false, m_tr S 50) else if k = 3 then (!decide (a = 0), m_tr S 500) else (true, m_tr S 5000)
section X4
variable {D : va_G} {dA : Nat → ClassId} {t0 mi : Nat} {S : yS} {lf mc : Nat → Int32} {cap : Nat → Nat} {B : Nat → Nat → Nat} {N : Nat → Nat}
set_option maxHeartbeats 4000000 in
set_option maxRecDepth 100000 in
theorem xc_asksAsCar (a b : Int32)  (h : yH) (hR : RX dA t0 (S) lf mc cap B N h) : yM (yZ t0 mi D dA) D yX0_asksAsCar cX0_asksAsCar 3 (some .boolean) 0 0 0 [.ref (B 16 0), .int a, .int b] h (fun r h' => r = some (.int (bI (xCar a b))) ∧ RX dA t0 (m_tr S 1) lf mc cap B N h') := by
  refine yM_of (yZ_ok t0 mi D dA) (by decide) rfl (Nat.le_of_ble_eq_true rfl) ?_
  intro p l e s m args below meth c A C hr hin
  show yW p l e (yR 0 0 0) s m args below meth c 3 D A 0 0 _ 0 [some (.ref (B 16 0)), some (.int a), some (.int b)] [] h
  refine yr_aload_n 1 C dX0_asksAsCar_0 rfl rfl rfl ?_
  refine yr_dup 2 C dX0_asksAsCar_1 rfl rfl ?_
  refine yr_get 5 C dX0_asksAsCar_2 fl_X0_9 (rx16 hR) rfl rfl ?_
  refine yr_iconst 6 C (1) dX0_asksAsCar_5 rfl rfl ?_
  refine yr_iadd 7 C dX0_asksAsCar_6 rfl ?_
  refine xx_put 10 C dX0_asksAsCar_7 fp_X0_9 (rx16 hR) (Nat.le_of_ble_eq_true rfl) rfl rfl (ru16_0 hR _) rfl (fun h hR => ?_)
  refine yr_iload_n 11 C dX0_asksAsCar_10 rfl rfl ?_
  refine yr_if_gt 21 14 C  dX0_asksAsCar_11 (by decide) rfl (fun c11 => ?_) (fun c11 => ?_)
  · refine yr_iconst 22 C (1) dX0_asksAsCar_21 rfl rfl ?_
    refine yr_goto 26 C dX0_asksAsCar_22 (by decide) ?_
    refine yr_zret C dX0_asksAsCar_26 hr ?_ (Nat.le_of_ble_eq_true rfl) (Nat.le_of_ble_eq_true rfl) ?_
    · first | exact bI_or _ | exact Or.inl rfl | exact Or.inr rfl
    exact ⟨by simp [xCar, bI, c11], hR⟩
  · refine yr_iload_n 15 C dX0_asksAsCar_14 rfl rfl ?_
    refine yr_sipush 18 C (5000) dX0_asksAsCar_15 rfl rfl ?_
    refine yr_icmp_lt 25 21 C  dX0_asksAsCar_18 (by decide) rfl (fun c18 => ?_) (fun c18 => ?_)
    · refine yr_iconst 26 C (0) dX0_asksAsCar_25 rfl rfl ?_
      refine yr_zret C dX0_asksAsCar_26 hr ?_ (Nat.le_of_ble_eq_true rfl) (Nat.le_of_ble_eq_true rfl) ?_
      · first | exact bI_or _ | exact Or.inl rfl | exact Or.inr rfl
      exact ⟨by simp [xCar, bI, c11, c18], hR⟩
    · refine yr_iconst 22 C (1) dX0_asksAsCar_21 rfl rfl ?_
      refine yr_goto 26 C dX0_asksAsCar_22 (by decide) ?_
      refine yr_zret C dX0_asksAsCar_26 hr ?_ (Nat.le_of_ble_eq_true rfl) (Nat.le_of_ble_eq_true rfl) ?_
      · first | exact bI_or _ | exact Or.inl rfl | exact Or.inr rfl
      exact ⟨by simp [xCar, bI, c11, c18], hR⟩
set_option maxHeartbeats 4000000 in
set_option maxRecDepth 100000 in
theorem xc_asksAsTurn (a b : Int32)  (h : yH) (hR : RX dA t0 (S) lf mc cap B N h) : yM (yZ t0 mi D dA) D yX0_asksAsTurn cX0_asksAsTurn 3 (some .boolean) 1 0 0 [.ref (B 16 0), .int a, .int b] h (fun r h' => r = some (.int (bI (xTurn S a b).1)) ∧ RX dA t0 ((xTurn S a b).2) lf mc cap B N h') := by
  refine yM_of (yZ_ok t0 mi D dA) (by decide) rfl (Nat.le_of_ble_eq_true rfl) ?_
  intro p l e s m args below meth c A C hr hin
  show yW p l e (yR 1 0 0) s m args below meth c 3 D A 0 0 _ 0 [some (.ref (B 16 0)), some (.int a), some (.int b)] [] h
  refine yr_aload_n 1 C dX0_asksAsTurn_0 rfl rfl rfl ?_
  refine yr_dup 2 C dX0_asksAsTurn_1 rfl rfl ?_
  refine yr_get 5 C dX0_asksAsTurn_2 fl_X0_9 (rx16 hR) rfl rfl ?_
  refine yr_bipush 7 C (10) dX0_asksAsTurn_5 rfl rfl ?_
  refine yr_iadd 8 C dX0_asksAsTurn_7 rfl ?_
  refine xx_put 11 C dX0_asksAsTurn_8 fp_X0_9 (rx16 hR) (Nat.le_of_ble_eq_true rfl) rfl rfl (ru16_0 hR _) rfl (fun h hR => ?_)
  replace hR : RX dA t0 (m_tr S 10) lf mc cap B N h := hR
  refine yr_iload_n 12 C dX0_asksAsTurn_11 rfl rfl ?_
  refine yr_sipush 15 C (2000) dX0_asksAsTurn_12 rfl rfl ?_
  refine yr_icmp_ge 27 18 C  dX0_asksAsTurn_15 (by decide) rfl (fun c15 => ?_) (fun c15 => ?_)
  · refine yr_iconst 28 C (1) dX0_asksAsTurn_27 rfl rfl ?_
    refine yr_goto 32 C dX0_asksAsTurn_28 (by decide) ?_
    refine yr_zret C dX0_asksAsTurn_32 hr ?_ (Nat.le_of_ble_eq_true rfl) (Nat.le_of_ble_eq_true rfl) ?_
    · first | exact bI_or _ | exact Or.inl rfl | exact Or.inr rfl
    refine ⟨?_, ?_⟩
    · simp [xTurn, bI, c15]
    · simpa [xTurn, c15] using hR
  · refine yr_aload_n 19 C dX0_asksAsTurn_18 rfl rfl rfl ?_
    refine yr_iload_n 20 C dX0_asksAsTurn_19 rfl rfl ?_
    refine yr_iload_n 21 C dX0_asksAsTurn_20 rfl rfl ?_
    refine yr_V2v 24 C (xc_asksAsCar _ _ _ hR) dX0_asksAsTurn_21 mt_X0_asksAsCar mv_X0_asksAsCar ml_X0_15 (rx16 hR) rfl (Nat.le_of_ble_eq_true rfl) (Nat.le_of_ble_eq_true rfl) (Nat.le_of_ble_eq_true rfl) (Nat.le_of_ble_eq_true rfl) (Nat.le_of_ble_eq_true rfl) rfl (fun h hR => ?_)
    refine yb_eq 31 27 C  dX0_asksAsTurn_24 (by decide) rfl (fun c24 => ?_) (fun c24 => ?_)
    · refine yr_iconst 32 C (0) dX0_asksAsTurn_31 rfl rfl ?_
      refine yr_zret C dX0_asksAsTurn_32 hr ?_ (Nat.le_of_ble_eq_true rfl) (Nat.le_of_ble_eq_true rfl) ?_
      · first | exact bI_or _ | exact Or.inl rfl | exact Or.inr rfl
      refine ⟨?_, ?_⟩
      · simp [xTurn, bI, c15, c24]
      · simpa [xTurn, c15, c24] using hR
    · refine yr_iconst 28 C (1) dX0_asksAsTurn_27 rfl rfl ?_
      refine yr_goto 32 C dX0_asksAsTurn_28 (by decide) ?_
      refine yr_zret C dX0_asksAsTurn_32 hr ?_ (Nat.le_of_ble_eq_true rfl) (Nat.le_of_ble_eq_true rfl) ?_
      · first | exact bI_or _ | exact Or.inl rfl | exact Or.inr rfl
      refine ⟨?_, ?_⟩
      · simp [xTurn, bI, c15, c24]
      · simpa [xTurn, c15, c24] using hR
set_option maxHeartbeats 4000000 in
set_option maxRecDepth 100000 in
theorem xc_asksAsWalk (a : Int32)  (h : yH) (hR : RX dA t0 (S) lf mc cap B N h) : yM (yZ t0 mi D dA) D yX0_asksAsWalk cX0_asksAsWalk 2 (some .boolean) 0 0 0 [.ref (B 16 0), .int a] h (fun r h' => r = some (.int (bI (!decide (a ≤ 0)))) ∧ RX dA t0 (m_tr S 100) lf mc cap B N h') := by
  refine yM_of (yZ_ok t0 mi D dA) (by decide) rfl (Nat.le_of_ble_eq_true rfl) ?_
  intro p l e s m args below meth c A C hr hin
  show yW p l e (yR 0 0 0) s m args below meth c 2 D A 0 0 _ 0 [some (.ref (B 16 0)), some (.int a)] [] h
  refine yr_aload_n 1 C dX0_asksAsWalk_0 rfl rfl rfl ?_
  refine yr_dup 2 C dX0_asksAsWalk_1 rfl rfl ?_
  refine yr_get 5 C dX0_asksAsWalk_2 fl_X0_9 (rx16 hR) rfl rfl ?_
  refine yr_bipush 7 C (100) dX0_asksAsWalk_5 rfl rfl ?_
  refine yr_iadd 8 C dX0_asksAsWalk_7 rfl ?_
  refine xx_put 11 C dX0_asksAsWalk_8 fp_X0_9 (rx16 hR) (Nat.le_of_ble_eq_true rfl) rfl rfl (ru16_0 hR _) rfl (fun h hR => ?_)
  refine yr_iload_n 12 C dX0_asksAsWalk_11 rfl rfl ?_
  refine yr_if_le 19 15 C  dX0_asksAsWalk_12 (by decide) rfl (fun c12 => ?_) (fun c12 => ?_)
  · refine yr_iconst 20 C (0) dX0_asksAsWalk_19 rfl rfl ?_
    refine yr_zret C dX0_asksAsWalk_20 hr ?_ (Nat.le_of_ble_eq_true rfl) (Nat.le_of_ble_eq_true rfl) ?_
    · first | exact bI_or _ | exact Or.inl rfl | exact Or.inr rfl
    exact ⟨by simp [bI, c12], hR⟩
  · refine yr_iconst 16 C (1) dX0_asksAsWalk_15 rfl rfl ?_
    refine yr_goto 20 C dX0_asksAsWalk_16 (by decide) ?_
    refine yr_zret C dX0_asksAsWalk_20 hr ?_ (Nat.le_of_ble_eq_true rfl) (Nat.le_of_ble_eq_true rfl) ?_
    · first | exact bI_or _ | exact Or.inl rfl | exact Or.inr rfl
    exact ⟨by simp [bI, c12], hR⟩
set_option maxHeartbeats 4000000 in
set_option maxRecDepth 100000 in
theorem xc_asksAsTram (a : Int32)  (h : yH) (hR : RX dA t0 (S) lf mc cap B N h) : yM (yZ t0 mi D dA) D yX0_asksAsTram cX0_asksAsTram 2 (some .boolean) 0 0 0 [.ref (B 16 0), .int a] h (fun r h' => r = some (.int (bI (!decide (a = 0)))) ∧ RX dA t0 (m_tr S 1000) lf mc cap B N h') := by
  refine yM_of (yZ_ok t0 mi D dA) (by decide) rfl (Nat.le_of_ble_eq_true rfl) ?_
  intro p l e s m args below meth c A C hr hin
  show yW p l e (yR 0 0 0) s m args below meth c 2 D A 0 0 _ 0 [some (.ref (B 16 0)), some (.int a)] [] h
  refine yr_aload_n 1 C dX0_asksAsTram_0 rfl rfl rfl ?_
  refine yr_dup 2 C dX0_asksAsTram_1 rfl rfl ?_
  refine yr_get 5 C dX0_asksAsTram_2 fl_X0_9 (rx16 hR) rfl rfl ?_
  refine yr_sipush 8 C (1000) dX0_asksAsTram_5 rfl rfl ?_
  refine yr_iadd 9 C dX0_asksAsTram_8 rfl ?_
  refine xx_put 12 C dX0_asksAsTram_9 fp_X0_9 (rx16 hR) (Nat.le_of_ble_eq_true rfl) rfl rfl (ru16_0 hR _) rfl (fun h hR => ?_)
  refine yr_iload_n 13 C dX0_asksAsTram_12 rfl rfl ?_
  refine yr_if_eq 20 16 C  dX0_asksAsTram_13 (by decide) rfl (fun c13 => ?_) (fun c13 => ?_)
  · refine yr_iconst 21 C (0) dX0_asksAsTram_20 rfl rfl ?_
    refine yr_zret C dX0_asksAsTram_21 hr ?_ (Nat.le_of_ble_eq_true rfl) (Nat.le_of_ble_eq_true rfl) ?_
    · first | exact bI_or _ | exact Or.inl rfl | exact Or.inr rfl
    exact ⟨by simp [bI, c13], hR⟩
  · refine yr_iconst 17 C (1) dX0_asksAsTram_16 rfl rfl ?_
    refine yr_goto 21 C dX0_asksAsTram_17 (by decide) ?_
    refine yr_zret C dX0_asksAsTram_21 hr ?_ (Nat.le_of_ble_eq_true rfl) (Nat.le_of_ble_eq_true rfl) ?_
    · first | exact bI_or _ | exact Or.inl rfl | exact Or.inr rfl
    exact ⟨by simp [bI, c13], hR⟩
set_option maxHeartbeats 4000000 in
set_option maxRecDepth 100000 in
theorem xc_holdsAsCar (a : Int32)  (h : yH) (hR : RX dA t0 (S) lf mc cap B N h) : yM (yZ t0 mi D dA) D yX0_holdsAsCar cX0_holdsAsCar 2 (some .boolean) 0 0 0 [.ref (B 16 0), .int a] h (fun r h' => r = some (.int (bI (!decide (a ≤ 0)))) ∧ RX dA t0 (m_tr S 5) lf mc cap B N h') := by
  refine yM_of (yZ_ok t0 mi D dA) (by decide) rfl (Nat.le_of_ble_eq_true rfl) ?_
  intro p l e s m args below meth c A C hr hin
  show yW p l e (yR 0 0 0) s m args below meth c 2 D A 0 0 _ 0 [some (.ref (B 16 0)), some (.int a)] [] h
  refine yr_aload_n 1 C dX0_holdsAsCar_0 rfl rfl rfl ?_
  refine yr_dup 2 C dX0_holdsAsCar_1 rfl rfl ?_
  refine yr_get 5 C dX0_holdsAsCar_2 fl_X0_9 (rx16 hR) rfl rfl ?_
  refine yr_iconst 6 C (5) dX0_holdsAsCar_5 rfl rfl ?_
  refine yr_iadd 7 C dX0_holdsAsCar_6 rfl ?_
  refine xx_put 10 C dX0_holdsAsCar_7 fp_X0_9 (rx16 hR) (Nat.le_of_ble_eq_true rfl) rfl rfl (ru16_0 hR _) rfl (fun h hR => ?_)
  refine yr_iload_n 11 C dX0_holdsAsCar_10 rfl rfl ?_
  refine yr_if_le 18 14 C  dX0_holdsAsCar_11 (by decide) rfl (fun c11 => ?_) (fun c11 => ?_)
  · refine yr_iconst 19 C (0) dX0_holdsAsCar_18 rfl rfl ?_
    refine yr_zret C dX0_holdsAsCar_19 hr ?_ (Nat.le_of_ble_eq_true rfl) (Nat.le_of_ble_eq_true rfl) ?_
    · first | exact bI_or _ | exact Or.inl rfl | exact Or.inr rfl
    exact ⟨by simp [bI, c11], hR⟩
  · refine yr_iconst 15 C (1) dX0_holdsAsCar_14 rfl rfl ?_
    refine yr_goto 19 C dX0_holdsAsCar_15 (by decide) ?_
    refine yr_zret C dX0_holdsAsCar_19 hr ?_ (Nat.le_of_ble_eq_true rfl) (Nat.le_of_ble_eq_true rfl) ?_
    · first | exact bI_or _ | exact Or.inl rfl | exact Or.inr rfl
    exact ⟨by simp [bI, c11], hR⟩
set_option maxHeartbeats 4000000 in
set_option maxRecDepth 100000 in
theorem xc_holdsAsTram (a : Int32)  (h : yH) (hR : RX dA t0 (S) lf mc cap B N h) : yM (yZ t0 mi D dA) D yX0_holdsAsTram cX0_holdsAsTram 2 (some .boolean) 0 0 0 [.ref (B 16 0), .int a] h (fun r h' => r = some (.int (bI (!decide (a = 0)))) ∧ RX dA t0 (m_tr S 500) lf mc cap B N h') := by
  refine yM_of (yZ_ok t0 mi D dA) (by decide) rfl (Nat.le_of_ble_eq_true rfl) ?_
  intro p l e s m args below meth c A C hr hin
  show yW p l e (yR 0 0 0) s m args below meth c 2 D A 0 0 _ 0 [some (.ref (B 16 0)), some (.int a)] [] h
  refine yr_aload_n 1 C dX0_holdsAsTram_0 rfl rfl rfl ?_
  refine yr_dup 2 C dX0_holdsAsTram_1 rfl rfl ?_
  refine yr_get 5 C dX0_holdsAsTram_2 fl_X0_9 (rx16 hR) rfl rfl ?_
  refine yr_sipush 8 C (500) dX0_holdsAsTram_5 rfl rfl ?_
  refine yr_iadd 9 C dX0_holdsAsTram_8 rfl ?_
  refine xx_put 12 C dX0_holdsAsTram_9 fp_X0_9 (rx16 hR) (Nat.le_of_ble_eq_true rfl) rfl rfl (ru16_0 hR _) rfl (fun h hR => ?_)
  refine yr_iload_n 13 C dX0_holdsAsTram_12 rfl rfl ?_
  refine yr_if_eq 20 16 C  dX0_holdsAsTram_13 (by decide) rfl (fun c13 => ?_) (fun c13 => ?_)
  · refine yr_iconst 21 C (0) dX0_holdsAsTram_20 rfl rfl ?_
    refine yr_zret C dX0_holdsAsTram_21 hr ?_ (Nat.le_of_ble_eq_true rfl) (Nat.le_of_ble_eq_true rfl) ?_
    · first | exact bI_or _ | exact Or.inl rfl | exact Or.inr rfl
    exact ⟨by simp [bI, c13], hR⟩
  · refine yr_iconst 17 C (1) dX0_holdsAsTram_16 rfl rfl ?_
    refine yr_goto 21 C dX0_holdsAsTram_17 (by decide) ?_
    refine yr_zret C dX0_holdsAsTram_21 hr ?_ (Nat.le_of_ble_eq_true rfl) (Nat.le_of_ble_eq_true rfl) ?_
    · first | exact bI_or _ | exact Or.inl rfl | exact Or.inr rfl
    exact ⟨by simp [bI, c13], hR⟩
set_option maxHeartbeats 4000000 in
set_option maxRecDepth 100000 in
theorem xc_holdsAsWalk   (h : yH) (hR : RX dA t0 (S) lf mc cap B N h) : yM (yZ t0 mi D dA) D yX0_holdsAsWalk cX0_holdsAsWalk 1 (some .boolean) 0 0 0 [.ref (B 16 0)] h (fun r h' => r = some (.int (bI false)) ∧ RX dA t0 (m_tr S 50) lf mc cap B N h') := by
  refine yM_of (yZ_ok t0 mi D dA) (by decide) rfl (Nat.le_of_ble_eq_true rfl) ?_
  intro p l e s m args below meth c A C hr hin
  show yW p l e (yR 0 0 0) s m args below meth c 1 D A 0 0 _ 0 [some (.ref (B 16 0))] [] h
  refine yr_aload_n 1 C dX0_holdsAsWalk_0 rfl rfl rfl ?_
  refine yr_dup 2 C dX0_holdsAsWalk_1 rfl rfl ?_
  refine yr_get 5 C dX0_holdsAsWalk_2 fl_X0_9 (rx16 hR) rfl rfl ?_
  refine yr_bipush 7 C (50) dX0_holdsAsWalk_5 rfl rfl ?_
  refine yr_iadd 8 C dX0_holdsAsWalk_7 rfl ?_
  refine xx_put 11 C dX0_holdsAsWalk_8 fp_X0_9 (rx16 hR) (Nat.le_of_ble_eq_true rfl) rfl rfl (ru16_0 hR _) rfl (fun h hR => ?_)
  refine yr_iconst 12 C (0) dX0_holdsAsWalk_11 rfl rfl ?_
  refine yr_zret C dX0_holdsAsWalk_12 hr ?_ (Nat.le_of_ble_eq_true rfl) (Nat.le_of_ble_eq_true rfl) ?_
  · first | exact bI_or _ | exact Or.inl rfl | exact Or.inr rfl
  exact ⟨rfl, hR⟩
set_option maxHeartbeats 4000000 in
set_option maxRecDepth 100000 in
theorem xc_holdsAsRest   (h : yH) (hR : RX dA t0 (S) lf mc cap B N h) : yM (yZ t0 mi D dA) D yX0_holdsAsRest cX0_holdsAsRest 1 (some .boolean) 0 0 0 [.ref (B 16 0)] h (fun r h' => r = some (.int (bI true)) ∧ RX dA t0 (m_tr S 5000) lf mc cap B N h') := by
  refine yM_of (yZ_ok t0 mi D dA) (by decide) rfl (Nat.le_of_ble_eq_true rfl) ?_
  intro p l e s m args below meth c A C hr hin
  show yW p l e (yR 0 0 0) s m args below meth c 1 D A 0 0 _ 0 [some (.ref (B 16 0))] [] h
  refine yr_aload_n 1 C dX0_holdsAsRest_0 rfl rfl rfl ?_
  refine yr_dup 2 C dX0_holdsAsRest_1 rfl rfl ?_
  refine yr_get 5 C dX0_holdsAsRest_2 fl_X0_9 (rx16 hR) rfl rfl ?_
  refine yr_sipush 8 C (5000) dX0_holdsAsRest_5 rfl rfl ?_
  refine yr_iadd 9 C dX0_holdsAsRest_8 rfl ?_
  refine xx_put 12 C dX0_holdsAsRest_9 fp_X0_9 (rx16 hR) (Nat.le_of_ble_eq_true rfl) rfl rfl (ru16_0 hR _) rfl (fun h hR => ?_)
  refine yr_iconst 13 C (1) dX0_holdsAsRest_12 rfl rfl ?_
  refine yr_zret C dX0_holdsAsRest_13 hr ?_ (Nat.le_of_ble_eq_true rfl) (Nat.le_of_ble_eq_true rfl) ?_
  · first | exact bI_or _ | exact Or.inl rfl | exact Or.inr rfl
  exact ⟨rfl, hR⟩
set_option maxHeartbeats 4000000 in
set_option maxRecDepth 100000 in
theorem xc_asksOf (k a b : Int32)  (h : yH) (hR : RX dA t0 (S) lf mc cap B N h) : yM (yZ t0 mi D dA) D yX0_asksOf cX0_asksOf 4 (some .boolean) 2 0 0 [.ref (B 16 0), .int k, .int a, .int b] h (fun r h' => r = some (.int (bI (xAsk S k a b).1)) ∧ RX dA t0 ((xAsk S k a b).2) lf mc cap B N h') := by
  refine yM_of (yZ_ok t0 mi D dA) (by decide) rfl (Nat.le_of_ble_eq_true rfl) ?_
  intro p l e s m args below meth c A C hr hin
  show yW p l e (yR 2 0 0) s m args below meth c 4 D A 0 0 _ 0 [some (.ref (B 16 0)), some (.int k), some (.int a), some (.int b)] [] h
  refine yr_iload_n 1 C dX0_asksOf_0 rfl rfl ?_
  by_cases z1_0 : k = 0
  · rw [z1_0]
    refine yr_tabIn (off := 31) 32 C dX0_asksOf_1 (by decide) (by decide) rfl (by decide) ?_
    refine yr_aload_n 33 C dX0_asksOf_32 rfl rfl rfl ?_
    refine yr_iload_n 34 C dX0_asksOf_33 rfl rfl ?_
    refine yr_iload_n 35 C dX0_asksOf_34 rfl rfl ?_
    refine yr_V2v 38 C (xc_asksAsCar _ _ _ hR) dX0_asksOf_35 mt_X0_asksAsCar mv_X0_asksAsCar ml_X0_15 (rx16 hR) rfl (Nat.le_of_ble_eq_true rfl) (Nat.le_of_ble_eq_true rfl) (Nat.le_of_ble_eq_true rfl) (Nat.le_of_ble_eq_true rfl) (Nat.le_of_ble_eq_true rfl) rfl (fun h hR => ?_)
    refine yr_zret C dX0_asksOf_38 hr ?_ (Nat.le_of_ble_eq_true rfl) (Nat.le_of_ble_eq_true rfl) ?_
    · first | exact bI_or _ | exact Or.inl rfl | exact Or.inr rfl
    refine ⟨?_, ?_⟩
    · simp [xAsk, bI, z1_0]
    · simpa [xAsk, z1_0] using hR
  by_cases z1_1 : k = 1
  · rw [z1_1]
    refine yr_tabIn (off := 38) 39 C dX0_asksOf_1 (by decide) (by decide) rfl (by decide) ?_
    refine yr_aload_n 40 C dX0_asksOf_39 rfl rfl rfl ?_
    refine yr_iload_n 41 C dX0_asksOf_40 rfl rfl ?_
    refine yr_iload_n 42 C dX0_asksOf_41 rfl rfl ?_
    refine yr_V2v 45 C (xc_asksAsTurn _ _ _ hR) dX0_asksOf_42 mt_X0_asksAsTurn mv_X0_asksAsTurn ml_X0_19 (rx16 hR) rfl (Nat.le_of_ble_eq_true rfl) (Nat.le_of_ble_eq_true rfl) (Nat.le_of_ble_eq_true rfl) (Nat.le_of_ble_eq_true rfl) (Nat.le_of_ble_eq_true rfl) rfl (fun h hR => ?_)
    refine yr_zret C dX0_asksOf_45 hr ?_ (Nat.le_of_ble_eq_true rfl) (Nat.le_of_ble_eq_true rfl) ?_
    · first | exact bI_or _ | exact Or.inl rfl | exact Or.inr rfl
    refine ⟨?_, ?_⟩
    · simp [xAsk, bI, z1_0, z1_1]
    · simpa [xAsk, z1_0, z1_1] using hR
  by_cases z1_2 : k = 2
  · rw [z1_2]
    refine yr_tabIn (off := 45) 46 C dX0_asksOf_1 (by decide) (by decide) rfl (by decide) ?_
    refine yr_aload_n 47 C dX0_asksOf_46 rfl rfl rfl ?_
    refine yr_iload_n 48 C dX0_asksOf_47 rfl rfl ?_
    refine yr_V1v 51 C (xc_asksAsWalk _ _ hR) dX0_asksOf_48 mt_X0_asksAsWalk mv_X0_asksAsWalk ml_X0_22 (rx16 hR) rfl (Nat.le_of_ble_eq_true rfl) (Nat.le_of_ble_eq_true rfl) (Nat.le_of_ble_eq_true rfl) (Nat.le_of_ble_eq_true rfl) (Nat.le_of_ble_eq_true rfl) rfl (fun h hR => ?_)
    refine yr_zret C dX0_asksOf_51 hr ?_ (Nat.le_of_ble_eq_true rfl) (Nat.le_of_ble_eq_true rfl) ?_
    · first | exact bI_or _ | exact Or.inl rfl | exact Or.inr rfl
    refine ⟨?_, ?_⟩
    · simp [xAsk, bI, z1_0, z1_1, z1_2]
    · simpa [xAsk, z1_0, z1_1, z1_2] using hR
  by_cases z1_3 : k = 3
  · rw [z1_3]
    refine yr_tabIn (off := 51) 52 C dX0_asksOf_1 (by decide) (by decide) rfl (by decide) ?_
    refine yr_aload_n 53 C dX0_asksOf_52 rfl rfl rfl ?_
    refine yr_iload_n 54 C dX0_asksOf_53 rfl rfl ?_
    refine yr_V1v 57 C (xc_asksAsTram _ _ hR) dX0_asksOf_54 mt_X0_asksAsTram mv_X0_asksAsTram ml_X0_26 (rx16 hR) rfl (Nat.le_of_ble_eq_true rfl) (Nat.le_of_ble_eq_true rfl) (Nat.le_of_ble_eq_true rfl) (Nat.le_of_ble_eq_true rfl) (Nat.le_of_ble_eq_true rfl) rfl (fun h hR => ?_)
    refine yr_zret C dX0_asksOf_57 hr ?_ (Nat.le_of_ble_eq_true rfl) (Nat.le_of_ble_eq_true rfl) ?_
    · first | exact bI_or _ | exact Or.inl rfl | exact Or.inr rfl
    refine ⟨?_, ?_⟩
    · simp [xAsk, bI, z1_0, z1_1, z1_2, z1_3]
    · simpa [xAsk, z1_0, z1_1, z1_2, z1_3] using hR
  refine yr_tabOut 58 C dX0_asksOf_1 (sw_out 3 (by decide) (fun i hi => match i, hi with | 0, _ => z1_0 | 1, _ => z1_1 | 2, _ => z1_2 | 3, _ => z1_3 | (n + 4), q => absurd q (by omega))) (by decide) ?_
  refine yr_iconst 59 C (0) dX0_asksOf_58 rfl rfl ?_
  refine yr_zret C dX0_asksOf_59 hr ?_ (Nat.le_of_ble_eq_true rfl) (Nat.le_of_ble_eq_true rfl) ?_
  · first | exact bI_or _ | exact Or.inl rfl | exact Or.inr rfl
  refine ⟨?_, ?_⟩
  · simp [xAsk, bI, z1_0, z1_1, z1_2, z1_3]
  · simpa [xAsk, z1_0, z1_1, z1_2, z1_3] using hR
set_option maxHeartbeats 4000000 in
set_option maxRecDepth 100000 in
theorem xc_holdsOf (k a : Int32)  (h : yH) (hR : RX dA t0 (S) lf mc cap B N h) : yM (yZ t0 mi D dA) D yX0_holdsOf cX0_holdsOf 3 (some .boolean) 1 0 0 [.ref (B 16 0), .int k, .int a] h (fun r h' => r = some (.int (bI (xHold S k a).1)) ∧ RX dA t0 ((xHold S k a).2) lf mc cap B N h') := by
  refine yM_of (yZ_ok t0 mi D dA) (by decide) rfl (Nat.le_of_ble_eq_true rfl) ?_
  intro p l e s m args below meth c A C hr hin
  show yW p l e (yR 1 0 0) s m args below meth c 3 D A 0 0 _ 0 [some (.ref (B 16 0)), some (.int k), some (.int a)] [] h
  refine yr_iload_n 1 C dX0_holdsOf_0 rfl rfl ?_
  by_cases z1_0 : k = 0
  · rw [z1_0]
    refine yr_tabIn (off := 31) 32 C dX0_holdsOf_1 (by decide) (by decide) rfl (by decide) ?_
    refine yr_aload_n 33 C dX0_holdsOf_32 rfl rfl rfl ?_
    refine yr_iload_n 34 C dX0_holdsOf_33 rfl rfl ?_
    refine yr_V1v 37 C (xc_holdsAsCar _ _ hR) dX0_holdsOf_34 mt_X0_holdsAsCar mv_X0_holdsAsCar ml_X0_29 (rx16 hR) rfl (Nat.le_of_ble_eq_true rfl) (Nat.le_of_ble_eq_true rfl) (Nat.le_of_ble_eq_true rfl) (Nat.le_of_ble_eq_true rfl) (Nat.le_of_ble_eq_true rfl) rfl (fun h hR => ?_)
    refine yr_zret C dX0_holdsOf_37 hr ?_ (Nat.le_of_ble_eq_true rfl) (Nat.le_of_ble_eq_true rfl) ?_
    · first | exact bI_or _ | exact Or.inl rfl | exact Or.inr rfl
    refine ⟨?_, ?_⟩
    · simp [xHold, bI, z1_0]
    · simpa [xHold, z1_0] using hR
  by_cases z1_1 : k = 1
  · rw [z1_1]
    refine yr_tabIn (off := 31) 32 C dX0_holdsOf_1 (by decide) (by decide) rfl (by decide) ?_
    refine yr_aload_n 33 C dX0_holdsOf_32 rfl rfl rfl ?_
    refine yr_iload_n 34 C dX0_holdsOf_33 rfl rfl ?_
    refine yr_V1v 37 C (xc_holdsAsCar _ _ hR) dX0_holdsOf_34 mt_X0_holdsAsCar mv_X0_holdsAsCar ml_X0_29 (rx16 hR) rfl (Nat.le_of_ble_eq_true rfl) (Nat.le_of_ble_eq_true rfl) (Nat.le_of_ble_eq_true rfl) (Nat.le_of_ble_eq_true rfl) (Nat.le_of_ble_eq_true rfl) rfl (fun h hR => ?_)
    refine yr_zret C dX0_holdsOf_37 hr ?_ (Nat.le_of_ble_eq_true rfl) (Nat.le_of_ble_eq_true rfl) ?_
    · first | exact bI_or _ | exact Or.inl rfl | exact Or.inr rfl
    refine ⟨?_, ?_⟩
    · simp [xHold, bI, z1_0, z1_1]
    · simpa [xHold, z1_0, z1_1] using hR
  by_cases z1_2 : k = 2
  · rw [z1_2]
    refine yr_tabIn (off := 37) 38 C dX0_holdsOf_1 (by decide) (by decide) rfl (by decide) ?_
    refine yr_aload_n 39 C dX0_holdsOf_38 rfl rfl rfl ?_
    refine yr_V0v 42 C (xc_holdsAsWalk _ hR) dX0_holdsOf_39 mt_X0_holdsAsWalk mv_X0_holdsAsWalk ml_X0_32 (rx16 hR) rfl (Nat.le_of_ble_eq_true rfl) (Nat.le_of_ble_eq_true rfl) (Nat.le_of_ble_eq_true rfl) (Nat.le_of_ble_eq_true rfl) (Nat.le_of_ble_eq_true rfl) rfl (fun h hR => ?_)
    refine yr_zret C dX0_holdsOf_42 hr ?_ (Nat.le_of_ble_eq_true rfl) (Nat.le_of_ble_eq_true rfl) ?_
    · first | exact bI_or _ | exact Or.inl rfl | exact Or.inr rfl
    refine ⟨?_, ?_⟩
    · simp [xHold, bI, z1_0, z1_1, z1_2]
    · simpa [xHold, z1_0, z1_1, z1_2] using hR
  by_cases z1_3 : k = 3
  · rw [z1_3]
    refine yr_tabIn (off := 42) 43 C dX0_holdsOf_1 (by decide) (by decide) rfl (by decide) ?_
    refine yr_aload_n 44 C dX0_holdsOf_43 rfl rfl rfl ?_
    refine yr_iload_n 45 C dX0_holdsOf_44 rfl rfl ?_
    refine yr_V1v 48 C (xc_holdsAsTram _ _ hR) dX0_holdsOf_45 mt_X0_holdsAsTram mv_X0_holdsAsTram ml_X0_36 (rx16 hR) rfl (Nat.le_of_ble_eq_true rfl) (Nat.le_of_ble_eq_true rfl) (Nat.le_of_ble_eq_true rfl) (Nat.le_of_ble_eq_true rfl) (Nat.le_of_ble_eq_true rfl) rfl (fun h hR => ?_)
    refine yr_zret C dX0_holdsOf_48 hr ?_ (Nat.le_of_ble_eq_true rfl) (Nat.le_of_ble_eq_true rfl) ?_
    · first | exact bI_or _ | exact Or.inl rfl | exact Or.inr rfl
    refine ⟨?_, ?_⟩
    · simp [xHold, bI, z1_0, z1_1, z1_2, z1_3]
    · simpa [xHold, z1_0, z1_1, z1_2, z1_3] using hR
  refine yr_tabOut 49 C dX0_holdsOf_1 (sw_out 3 (by decide) (fun i hi => match i, hi with | 0, _ => z1_0 | 1, _ => z1_1 | 2, _ => z1_2 | 3, _ => z1_3 | (n + 4), q => absurd q (by omega))) (by decide) ?_
  refine yr_aload_n 50 C dX0_holdsOf_49 rfl rfl rfl ?_
  refine yr_V0v 53 C (xc_holdsAsRest _ hR) dX0_holdsOf_50 mt_X0_holdsAsRest mv_X0_holdsAsRest ml_X0_39 (rx16 hR) rfl (Nat.le_of_ble_eq_true rfl) (Nat.le_of_ble_eq_true rfl) (Nat.le_of_ble_eq_true rfl) (Nat.le_of_ble_eq_true rfl) (Nat.le_of_ble_eq_true rfl) rfl (fun h hR => ?_)
  refine yr_zret C dX0_holdsOf_53 hr ?_ (Nat.le_of_ble_eq_true rfl) (Nat.le_of_ble_eq_true rfl) ?_
  · first | exact bI_or _ | exact Or.inl rfl | exact Or.inr rfl
  refine ⟨?_, ?_⟩
  · simp [xHold, bI, z1_0, z1_1, z1_2, z1_3]
  · simpa [xHold, z1_0, z1_1, z1_2, z1_3] using hR
set_option maxHeartbeats 4000000 in
set_option maxRecDepth 100000 in
theorem xc_meet (a b : Int32)  (h : yH) (hR : RX dA t0 (S) lf mc cap B N h) : yM (yZ t0 mi D dA) D yX2_meet cX2_meet 3 none 0 0 0 [.ref (B 15 0), .int a, .int b] h (fun r h' => r = none ∧ RX dA t0 (mset (mset (mset (mset (mset S 45 0 (S 45 0 + 1)) 41 0 a) 42 0 b) 44 0 1) 40 0 0) lf mc cap B N h') := by
  refine yM_of (yZ_ok t0 mi D dA) (by decide) rfl (Nat.le_of_ble_eq_true rfl) ?_
  intro p l e s m args below meth c A C hr hin
  show yW p l e (yR 0 0 0) s m args below meth c 3 D A 0 0 _ 0 [some (.ref (B 15 0)), some (.int a), some (.int b)] [] h
  refine yr_aload_n 1 C dX2_meet_0 rfl rfl rfl ?_
  refine yr_dup 2 C dX2_meet_1 rfl rfl ?_
  refine yr_get 5 C dX2_meet_2 fl_X2_9 (rx15 hR) rfl rfl ?_
  refine yr_iconst 6 C (1) dX2_meet_5 rfl rfl ?_
  refine yr_iadd 7 C dX2_meet_6 rfl ?_
  refine xx_put 10 C dX2_meet_7 fp_X2_9 (rx15 hR) (Nat.le_of_ble_eq_true rfl) rfl rfl (ru15_0 hR _) rfl (fun h hR => ?_)
  refine yr_aload_n 11 C dX2_meet_10 rfl rfl rfl ?_
  refine yr_iload_n 12 C dX2_meet_11 rfl rfl ?_
  refine xx_put 15 C dX2_meet_12 fp_X2_15 (rx15 hR) (Nat.le_of_ble_eq_true rfl) rfl rfl (ru15_1 hR _) rfl (fun h hR => ?_)
  refine yr_aload_n 16 C dX2_meet_15 rfl rfl rfl ?_
  refine yr_iload_n 17 C dX2_meet_16 rfl rfl ?_
  refine xx_put 20 C dX2_meet_17 fp_X2_18 (rx15 hR) (Nat.le_of_ble_eq_true rfl) rfl rfl (ru15_2 hR _) rfl (fun h hR => ?_)
  refine yr_aload_n 21 C dX2_meet_20 rfl rfl rfl ?_
  refine yr_iconst 22 C (1) dX2_meet_21 rfl rfl ?_
  refine xx_put 25 C dX2_meet_22 fp_X2_21 (rx15 hR) (Nat.le_of_ble_eq_true rfl) rfl rfl (ru15_3 hR _) rfl (fun h hR => ?_)
  refine yr_aload_n 26 C dX2_meet_25 rfl rfl rfl ?_
  refine yr_iconst 27 C (0) dX2_meet_26 rfl rfl ?_
  refine xx_put 30 C dX2_meet_27 fp_X2_24 (rx15 hR) (Nat.le_of_ble_eq_true rfl) rfl rfl (ru15_4 hR _) rfl (fun h hR => ?_)
  refine yr_vret C dX2_meet_30 hr (Nat.le_of_ble_eq_true rfl) (Nat.le_of_ble_eq_true rfl) ?_
  exact ⟨rfl, hR⟩
set_option maxHeartbeats 4000000 in
set_option maxRecDepth 100000 in
theorem xc_add (a : Nat) (ha : a < 5) (q : Int32)  (h : yH) (hR : RX dA t0 (S) lf mc cap B N h) : yM (yZ t0 mi D dA) D yX3_add cX3_add 3 none 0 0 0 [.ref (B 13 0), .int (nI a), .int q] h (fun r h' => r = none ∧ RX dA t0 (m_found S a q) lf mc cap B N h') := by
  refine yM_of (yZ_ok t0 mi D dA) (by decide) rfl (Nat.le_of_ble_eq_true rfl) ?_
  intro p l e s m args below meth c A C hr hin
  show yW p l e (yR 0 0 0) s m args below meth c 3 D A 0 0 _ 0 [some (.ref (B 13 0)), some (.int (nI a)), some (.int q)] [] h
  refine yr_iload_n 1 C dX3_add_0 rfl rfl ?_
  refine yr_if_lt 13 4 C  dX3_add_1 (by decide) rfl (fun c1 => ?_) (fun c1 => ?_)
  · exact absurd c1 (nI_pos (by omega))
  refine yr_iload_n 5 C dX3_add_4 rfl rfl ?_
  refine yr_aload_n 6 C dX3_add_5 rfl rfl rfl ?_
  refine yr_get 9 C dX3_add_6 fl_X3_9 (rx13 hR) rfl rfl ?_
  refine yr_alen 10 0 C (5) dX3_add_9 (rx14 hR) rfl rfl rfl ?_
  refine yr_icmp_lt 14 13 C  dX3_add_10 (by decide) rfl (fun c10 => ?_) (fun c10 => ?_)
  rotate_left
  · exact absurd (nI_lt (b := 5) ha (by decide)) c10
  refine yr_aload_n 15 C dX3_add_14 rfl rfl rfl ?_
  refine yr_get 18 C dX3_add_15 fl_X3_9 (rx13 hR) rfl rfl ?_
  refine yr_iload_n 19 C dX3_add_18 rfl rfl ?_
  refine yr_dup2 20 C dX3_add_19 rfl rfl rfl ?_
  refine xx_iald 21 C (S 46 a) dX3_add_20 (rx14 hR) ?_ (by decide) (if_pos ha) rfl ?_
  · exact ha
  refine yr_iconst 22 C (1) dX3_add_21 rfl rfl ?_
  refine yr_iadd 23 C dX3_add_22 rfl ?_
  refine xx_iast 24 C dX3_add_23 (rx14 hR) ?_ (by decide) (ru14 hR ha _) rfl (fun h hR => ?_)
  · exact ha
  refine yr_aload_n 25 C dX3_add_24 rfl rfl rfl ?_
  refine yr_iload_n 26 C dX3_add_25 rfl rfl ?_
  refine xx_put 29 C dX3_add_26 fp_X3_15 (rx13 hR) (Nat.le_of_ble_eq_true rfl) rfl rfl (ru13_1 hR _) rfl (fun h hR => ?_)
  refine yr_aload_n 30 C dX3_add_29 rfl rfl rfl ?_
  refine yr_iload_n 31 C dX3_add_30 rfl rfl ?_
  refine xx_put 34 C dX3_add_31 fp_X3_19 (rx13 hR) (Nat.le_of_ble_eq_true rfl) rfl rfl (ru13_2 hR _) rfl (fun h hR => ?_)
  refine yr_vret C dX3_add_34 hr (Nat.le_of_ble_eq_true rfl) (Nat.le_of_ble_eq_true rfl) ?_
  exact ⟨rfl, hR⟩
set_option maxHeartbeats 4000000 in
set_option maxRecDepth 100000 in
theorem xc_howMany (a : Nat) (ha : a < 5)  (h : yH) (hR : RX dA t0 (S) lf mc cap B N h) : yM (yZ t0 mi D dA) D yX3_howMany cX3_howMany 2 (some .int) 0 0 0 [.ref (B 13 0), .int (nI a)] h (fun r h' => r = some (.int (S 46 a)) ∧ RX dA t0 (S) lf mc cap B N h') := by
  refine yM_of (yZ_ok t0 mi D dA) (by decide) rfl (Nat.le_of_ble_eq_true rfl) ?_
  intro p l e s m args below meth c A C hr hin
  show yW p l e (yR 0 0 0) s m args below meth c 2 D A 0 0 _ 0 [some (.ref (B 13 0)), some (.int (nI a))] [] h
  refine yr_iload_n 1 C dX3_howMany_0 rfl rfl ?_
  refine yr_if_lt 22 4 C  dX3_howMany_1 (by decide) rfl (fun c1 => ?_) (fun c1 => ?_)
  · exact absurd c1 (nI_pos (by omega))
  refine yr_iload_n 5 C dX3_howMany_4 rfl rfl ?_
  refine yr_aload_n 6 C dX3_howMany_5 rfl rfl rfl ?_
  refine yr_get 9 C dX3_howMany_6 fl_X3_9 (rx13 hR) rfl rfl ?_
  refine yr_alen 10 0 C (5) dX3_howMany_9 (rx14 hR) rfl rfl rfl ?_
  refine yr_icmp_ge 22 13 C  dX3_howMany_10 (by decide) rfl (fun c10 => ?_) (fun c10 => ?_)
  · exact absurd c10 (nI_ge (b := 5) ha (by decide))
  refine yr_aload_n 14 C dX3_howMany_13 rfl rfl rfl ?_
  refine yr_get 17 C dX3_howMany_14 fl_X3_9 (rx13 hR) rfl rfl ?_
  refine yr_iload_n 18 C dX3_howMany_17 rfl rfl ?_
  refine xx_iald 19 C (S 46 a) dX3_howMany_18 (rx14 hR) ?_ (by decide) (if_pos ha) rfl ?_
  · exact ha
  refine yr_goto 23 C dX3_howMany_19 (by decide) ?_
  refine yr_iret C dX3_howMany_23 hr (Nat.le_of_ble_eq_true rfl) (Nat.le_of_ble_eq_true rfl) ?_
  exact ⟨rfl, hR⟩
set_option maxHeartbeats 4000000 in
set_option maxRecDepth 100000 in
theorem xc_isAsked (z : Nat) (hz : z < N 0)  (h : yH) (hR : RX dA t0 (S) lf mc cap B N h) : yM (yZ t0 mi D dA) D yX6_isAsked cX6_isAsked 1 (some .boolean) 0 0 0 [.ref (B 3 z)] h (fun r h' => r = some (.int (bI (!decide (S 10 z = -5)))) ∧ RX dA t0 (S) lf mc cap B N h') := by
  refine yM_of (yZ_ok t0 mi D dA) (by decide) rfl (Nat.le_of_ble_eq_true rfl) ?_
  intro p l e s m args below meth c A C hr hin
  show yW p l e (yR 0 0 0) s m args below meth c 1 D A 0 0 _ 0 [some (.ref (B 3 z))] [] h
  refine yr_aload_n 1 C dX6_isAsked_0 rfl rfl rfl ?_
  refine yr_get 4 C dX6_isAsked_1 fl_X6_33 (rx3 hR hz) rfl rfl ?_
  refine yr_bipush 6 C (-5) dX6_isAsked_4 rfl rfl ?_
  refine yr_icmp_eq 13 9 C  dX6_isAsked_6 (by decide) rfl (fun c6 => ?_) (fun c6 => ?_)
  · refine yr_iconst 14 C (0) dX6_isAsked_13 rfl rfl ?_
    refine yr_zret C dX6_isAsked_14 hr ?_ (Nat.le_of_ble_eq_true rfl) (Nat.le_of_ble_eq_true rfl) ?_
    · first | exact bI_or _ | exact Or.inl rfl | exact Or.inr rfl
    exact ⟨by simp [bI, c6], hR⟩
  · refine yr_iconst 10 C (1) dX6_isAsked_9 rfl rfl ?_
    refine yr_goto 14 C dX6_isAsked_10 (by decide) ?_
    refine yr_zret C dX6_isAsked_14 hr ?_ (Nat.le_of_ble_eq_true rfl) (Nat.le_of_ble_eq_true rfl) ?_
    · first | exact bI_or _ | exact Or.inl rfl | exact Or.inr rfl
    exact ⟨by simp [bI, c6], hR⟩
set_option maxHeartbeats 4000000 in
set_option maxRecDepth 100000 in
theorem xc_isLit (z : Nat) (hz : z < N 0)  (h : yH) (hR : RX dA t0 (S) lf mc cap B N h) : yM (yZ t0 mi D dA) D yX6_isLit cX6_isLit 1 (some .boolean) 0 0 0 [.ref (B 3 z)] h (fun r h' => r = some (.int (bI (decide (S 3 z = 1) || decide (S 3 z = 2)))) ∧ RX dA t0 (S) lf mc cap B N h') := by
  refine yM_of (yZ_ok t0 mi D dA) (by decide) rfl (Nat.le_of_ble_eq_true rfl) ?_
  intro p l e s m args below meth c A C hr hin
  show yW p l e (yR 0 0 0) s m args below meth c 1 D A 0 0 _ 0 [some (.ref (B 3 z))] [] h
  refine yr_aload_n 1 C dX6_isLit_0 rfl rfl rfl ?_
  refine yr_get 4 C dX6_isLit_1 fl_X6_26 (rx3 hR hz) rfl rfl ?_
  refine yr_iconst 5 C (1) dX6_isLit_4 rfl rfl ?_
  refine yr_icmp_eq 16 8 C  dX6_isLit_5 (by decide) rfl (fun c5 => ?_) (fun c5 => ?_)
  · refine yr_iconst 17 C (1) dX6_isLit_16 rfl rfl ?_
    refine yr_goto 21 C dX6_isLit_17 (by decide) ?_
    refine yr_zret C dX6_isLit_21 hr ?_ (Nat.le_of_ble_eq_true rfl) (Nat.le_of_ble_eq_true rfl) ?_
    · first | exact bI_or _ | exact Or.inl rfl | exact Or.inr rfl
    exact ⟨by simp [bI, c5], hR⟩
  · refine yr_aload_n 9 C dX6_isLit_8 rfl rfl rfl ?_
    refine yr_get 12 C dX6_isLit_9 fl_X6_26 (rx3 hR hz) rfl rfl ?_
    refine yr_iconst 13 C (2) dX6_isLit_12 rfl rfl ?_
    refine yr_icmp_ne 20 16 C  dX6_isLit_13 (by decide) rfl (fun c13 => ?_) (fun c13 => ?_)
    · refine yr_iconst 21 C (0) dX6_isLit_20 rfl rfl ?_
      refine yr_zret C dX6_isLit_21 hr ?_ (Nat.le_of_ble_eq_true rfl) (Nat.le_of_ble_eq_true rfl) ?_
      · first | exact bI_or _ | exact Or.inl rfl | exact Or.inr rfl
      exact ⟨by simp [bI, c5, c13], hR⟩
    · refine yr_iconst 17 C (1) dX6_isLit_16 rfl rfl ?_
      refine yr_goto 21 C dX6_isLit_17 (by decide) ?_
      refine yr_zret C dX6_isLit_21 hr ?_ (Nat.le_of_ble_eq_true rfl) (Nat.le_of_ble_eq_true rfl) ?_
      · first | exact bI_or _ | exact Or.inl rfl | exact Or.inr rfl
      exact ⟨by simp [bI, c5, c13], hR⟩
end X4
