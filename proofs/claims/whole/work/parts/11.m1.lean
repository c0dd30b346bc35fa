def bI (b : Bool) : Int32 := cond b 1 0
theorem bI_or (b : Bool) : bI b = 0 ∨ bI b = 1 := by cases b <;> simp [bI]
theorem bI_0 {b : Bool} : bI b = 0 ↔ b = false := by cases b <;> simp [bI]
theorem bI_1 {b : Bool} : ¬ bI b = 0 ↔ b = true := by cases b <;> simp [bI]
section BRows
variable {Z : (Nat → Prop) → State → Prop} {D : va_G} {dA : Nat → ClassId} {p : Program} {l : Launch} {e : Env} {R : Room} {s : State} {m : MethodId} {args : Array Value} {below : List Frame} {meth : Method} {c : Code} {cc : ByteArray} {nL : Nat} {own : String} {A : Nat → Prop} {cells slots : Nat} {Q : State → Prop} {pc : Nat} {lv : List (Option Value)} {st : List Value} {h : yH}
theorem yb_eq (tgt pc2 : Nat) (C : yC Z D dA p s m args meth c cc nL own A) {x : Bool} {off : Int} (d : decode cc pc = .ok (.ifCond .eq off, 3)) (ht : (pc : Int) + off = (tgt : Int)) (hp : pc + 3 = pc2) (kt : x = false → yW p l e R s m args below meth c nL D A cells slots Q tgt lv (st) (h)) (kf : x = true → yW p l e R s m args below meth c nL D A cells slots Q pc2 lv (st) (h)) : yW p l e R s m args below meth c nL D A cells slots Q pc lv (.int (bI x) :: st) (h) := yr_if_eq tgt pc2 C d ht hp (fun q => kt (bI_0.mp q)) (fun q => kf (bI_1.mp q))
theorem yb_ne (tgt pc2 : Nat) (C : yC Z D dA p s m args meth c cc nL own A) {x : Bool} {off : Int} (d : decode cc pc = .ok (.ifCond .ne off, 3)) (ht : (pc : Int) + off = (tgt : Int)) (hp : pc + 3 = pc2) (kt : x = true → yW p l e R s m args below meth c nL D A cells slots Q tgt lv (st) (h)) (kf : x = false → yW p l e R s m args below meth c nL D A cells slots Q pc2 lv (st) (h)) : yW p l e R s m args below meth c nL D A cells slots Q pc lv (.int (bI x) :: st) (h) := yr_if_ne tgt pc2 C d ht hp (fun q => kt (bI_1.mp q)) (fun q => kf (bI_0.mp q))
end BRows
theorem mL_lt (k : Nat) : mL k < 2 ^ 31 := by unfold mL; split <;> decide
section NRows
variable {Z : (Nat → Prop) → State → Prop} {D : va_G} {dA : Nat → ClassId} {p : Program} {l : Launch} {e : Env} {R : Room} {s : State} {m : MethodId} {args : Array Value} {below : List Frame} {meth : Method} {c : Code} {cc : ByteArray} {nL : Nat} {own : String} {A : Nat → Prop} {cells slots : Nat} {Q : State → Prop} {pc : Nat} {lv : List (Option Value)} {st : List Value} {h : yH}
variable {ad : Nat → Nat} {m0 : Nat} {S : yS}
theorem ym_aldN (pc2 : Nat) (C : yC Z D dA p s m args meth c cc nL own A) (hR : yMR dA ad m0 S h) {k i : Nat} (d : decode cc pc = .ok (.iaload, 1)) (hk : k < 53) (ha : mA k = true) (ht : mT k = 0) (hi : i < mL k) (hp : pc + 1 = pc2) (kk : yW p l e R s m args below meth c nL D A cells slots Q pc2 lv (.int (S k i) :: st) (h)) : yW p l e R s m args below meth c nL D A cells slots Q pc lv (.int (nI i) :: .ref (ad k) :: st) (h) := by
  refine ym_ald pc2 C hR d hk ha ht (vp_in_nI hi (mL_lt k)) hp ?_
  rw [nI_clamp (Nat.lt_trans hi (mL_lt k))]
  exact kk
theorem ym_astN (pc2 : Nat) (C : yC Z D dA p s m args meth c cc nL own A) (hR : yMR dA ad m0 S h) {k i : Nat} {x : Int32} (d : decode cc pc = .ok (.iastore, 1)) (hk : k < 53) (ha : mA k = true) (ht : mT k = 0) (hi : i < mL k) (hp : pc + 1 = pc2) (kk : ∀ h : yH, yMR dA ad m0 (mset S k i x) h → yW p l e R s m args below meth c nL D A cells slots Q pc2 lv (st) (h)) : yW p l e R s m args below meth c nL D A cells slots Q pc lv (.int x :: .int (nI i) :: .ref (ad k) :: st) (h) := by
  refine ym_ast pc2 C hR d hk ha ht (vp_in_nI hi (mL_lt k)) hp (fun h hR => ?_)
  rw [nI_clamp (Nat.lt_trans hi (mL_lt k))] at hR
  exact kk h hR
theorem ym_zaldN (pc2 : Nat) (C : yC Z D dA p s m args meth c cc nL own A) (hR : yMR dA ad m0 S h) {k i : Nat} (d : decode cc pc = .ok (.baload, 1)) (hk : k < 53) (ha : mA k = true) (ht : mT k = 3) (hi : i < mL k) (hp : pc + 1 = pc2) (kk : yW p l e R s m args below meth c nL D A cells slots Q pc2 lv (.int (S k i) :: st) (h)) : yW p l e R s m args below meth c nL D A cells slots Q pc lv (.int (nI i) :: .ref (ad k) :: st) (h) := by
  refine ym_zald pc2 C hR d hk ha ht (vp_in_nI hi (mL_lt k)) hp ?_
  rw [nI_clamp (Nat.lt_trans hi (mL_lt k))]
  exact kk
theorem ym_zastN (pc2 : Nat) (C : yC Z D dA p s m args meth c cc nL own A) (hR : yMR dA ad m0 S h) {k i : Nat} {x : Int32} (d : decode cc pc = .ok (.bastore, 1)) (hk : k < 53) (ha : mA k = true) (ht : mT k = 3) (hi : i < mL k) (hx : x = 0 ∨ x = 1) (hp : pc + 1 = pc2) (kk : ∀ h : yH, yMR dA ad m0 (mset S k i x) h → yW p l e R s m args below meth c nL D A cells slots Q pc2 lv (st) (h)) : yW p l e R s m args below meth c nL D A cells slots Q pc lv (.int x :: .int (nI i) :: .ref (ad k) :: st) (h) := by
  refine ym_zast pc2 C hR d hk ha ht (vp_in_nI hi (mL_lt k)) hx hp (fun h hR => ?_)
  rw [nI_clamp (Nat.lt_trans hi (mL_lt k))] at hR
  exact kk h hR
end NRows

/-! the reference's methods as functions -/
def m_in (v lo hi : Int32) : Bool := !decide (v < lo) && !decide (hi < v)
def m_isP (S : yS) (p : Int32) : Bool := m_in p 0 (S 1 0 - 1)
def m_isS (S : yS) (p : Int32) : Bool := m_in p 0 (S 17 0 - 1)
def m_isD (S : yS) (p : Int32) : Bool := m_in p 0 (S 19 0 - 1)
def m_found (S : yS) (a : Nat) (p : Int32) : yS := mset (mset (mset S 46 a (S 46 a + 1)) 47 0 (nI a)) 48 0 p
section M1
variable {Z : (Nat → Prop) → State → Prop} {D : va_G} {dA : Nat → ClassId} {ad : Nat → Nat} {m0 : Nat} {S : yS}
set_option maxHeartbeats 4000000 in
set_option maxRecDepth 100000 in
theorem mc_in (hZ : yZok D dA Z) (v lo hi : Int32)  (h : yH) : yM Z D yX9_in cX9_in 3 (some .boolean) 0 0 0 [.int v, .int lo, .int hi] h (fun r h' => r = some (.int (bI (m_in v lo hi))) ∧ h' = h) := by
  refine yM_of hZ (by decide) rfl (Nat.le_of_ble_eq_true rfl) ?_
  intro p l e s m args below meth c A C hr hin
  show yW p l e (yR 0 0 0) s m args below meth c 3 D A 0 0 _ 0 [some (.int v), some (.int lo), some (.int hi)] [] h
  refine yr_iload_n 1 C dX9_in_0 rfl rfl ?_
  refine yr_iload_n 2 C dX9_in_1 rfl rfl ?_
  refine yr_icmp_lt 14 5 C dX9_in_2 (by decide) rfl (fun c2 => ?_) (fun c2 => ?_)
  · refine yr_iconst 15 C (0) dX9_in_14 rfl rfl ?_
    refine yr_zret C dX9_in_15 hr ?_ (Nat.le_of_ble_eq_true rfl) (Nat.le_of_ble_eq_true rfl) ?_
    · decide
    exact ⟨by simp [m_in, bI, *], rfl⟩
  · refine yr_iload_n 6 C dX9_in_5 rfl rfl ?_
    refine yr_iload_n 7 C dX9_in_6 rfl rfl ?_
    refine yr_icmp_gt 14 10 C dX9_in_7 (by decide) rfl (fun c7 => ?_) (fun c7 => ?_)
    · refine yr_iconst 15 C (0) dX9_in_14 rfl rfl ?_
      refine yr_zret C dX9_in_15 hr ?_ (Nat.le_of_ble_eq_true rfl) (Nat.le_of_ble_eq_true rfl) ?_
      · decide
      exact ⟨by simp [m_in, bI, *], rfl⟩
    · refine yr_iconst 11 C (1) dX9_in_10 rfl rfl ?_
      refine yr_goto 15 C dX9_in_11 (by decide) ?_
      refine yr_zret C dX9_in_15 hr ?_ (Nat.le_of_ble_eq_true rfl) (Nat.le_of_ble_eq_true rfl) ?_
      · decide
      exact ⟨by simp [m_in, bI, *], rfl⟩
set_option maxHeartbeats 4000000 in
set_option maxRecDepth 100000 in
theorem mc_isPhase (hZ : yZok D dA Z) (q : Int32)  (h : yH) (hR : yMR dA ad m0 (S) h) : yM Z D yX9_isPhase cX9_isPhase 2 (some .boolean) 1 0 0 [.ref m0, .int q] h (fun r h' => r = some (.int (bI (m_isP S q))) ∧ yMR dA ad m0 (S) h') := by
  refine yM_of hZ (by decide) rfl (Nat.le_of_ble_eq_true rfl) ?_
  intro p l e s m args below meth c A C hr hin
  show yW p l e (yR 1 0 0) s m args below meth c 2 D A 0 0 _ 0 [some (.ref m0), some (.int q)] [] h
  refine yr_iload_n 1 C dX9_isPhase_0 rfl rfl ?_
  refine yr_iconst 2 C (0) dX9_isPhase_1 rfl rfl ?_
  refine yr_aload_n 3 C dX9_isPhase_2 rfl rfl rfl ?_
  refine ym_get 6 C hR dX9_isPhase_3 fl_X9_120 (by decide) rfl rfl ?_
  refine yr_iconst 7 C (1) dX9_isPhase_6 rfl rfl ?_
  refine yr_isub 8 C dX9_isPhase_7 rfl ?_
  refine yr_S3v 11 C (mc_in hZ _ _ _ _) dX9_isPhase_8 mt_X9_in ms_X9_in ml_X9_123 (Nat.le_of_ble_eq_true rfl) (Nat.le_of_ble_eq_true rfl) (Nat.le_of_ble_eq_true rfl) (Nat.le_of_ble_eq_true rfl) (Nat.le_of_ble_eq_true rfl) rfl (fun h e => ?_)
  subst e
  refine yr_zret C dX9_isPhase_11 hr ?_ (Nat.le_of_ble_eq_true rfl) (Nat.le_of_ble_eq_true rfl) ?_
  · exact bI_or _
  exact ⟨rfl, hR⟩
set_option maxHeartbeats 4000000 in
set_option maxRecDepth 100000 in
theorem mc_isStage (hZ : yZok D dA Z) (q : Int32)  (h : yH) (hR : yMR dA ad m0 (S) h) : yM Z D yX9_isStage cX9_isStage 2 (some .boolean) 1 0 0 [.ref m0, .int q] h (fun r h' => r = some (.int (bI (m_isS S q))) ∧ yMR dA ad m0 (S) h') := by
  refine yM_of hZ (by decide) rfl (Nat.le_of_ble_eq_true rfl) ?_
  intro p l e s m args below meth c A C hr hin
  show yW p l e (yR 1 0 0) s m args below meth c 2 D A 0 0 _ 0 [some (.ref m0), some (.int q)] [] h
  refine yr_iload_n 1 C dX9_isStage_0 rfl rfl ?_
  refine yr_iconst 2 C (0) dX9_isStage_1 rfl rfl ?_
  refine yr_aload_n 3 C dX9_isStage_2 rfl rfl rfl ?_
  refine ym_get 6 C hR dX9_isStage_3 fl_X9_127 (by decide) rfl rfl ?_
  refine yr_iconst 7 C (1) dX9_isStage_6 rfl rfl ?_
  refine yr_isub 8 C dX9_isStage_7 rfl ?_
  refine yr_S3v 11 C (mc_in hZ _ _ _ _) dX9_isStage_8 mt_X9_in ms_X9_in ml_X9_123 (Nat.le_of_ble_eq_true rfl) (Nat.le_of_ble_eq_true rfl) (Nat.le_of_ble_eq_true rfl) (Nat.le_of_ble_eq_true rfl) (Nat.le_of_ble_eq_true rfl) rfl (fun h e => ?_)
  subst e
  refine yr_zret C dX9_isStage_11 hr ?_ (Nat.le_of_ble_eq_true rfl) (Nat.le_of_ble_eq_true rfl) ?_
  · exact bI_or _
  exact ⟨rfl, hR⟩
set_option maxHeartbeats 4000000 in
set_option maxRecDepth 100000 in
theorem mc_isDetector (hZ : yZok D dA Z) (q : Int32)  (h : yH) (hR : yMR dA ad m0 (S) h) : yM Z D yX9_isDetector cX9_isDetector 2 (some .boolean) 1 0 0 [.ref m0, .int q] h (fun r h' => r = some (.int (bI (m_isD S q))) ∧ yMR dA ad m0 (S) h') := by
  refine yM_of hZ (by decide) rfl (Nat.le_of_ble_eq_true rfl) ?_
  intro p l e s m args below meth c A C hr hin
  show yW p l e (yR 1 0 0) s m args below meth c 2 D A 0 0 _ 0 [some (.ref m0), some (.int q)] [] h
  refine yr_iload_n 1 C dX9_isDetector_0 rfl rfl ?_
  refine yr_iconst 2 C (0) dX9_isDetector_1 rfl rfl ?_
  refine yr_aload_n 3 C dX9_isDetector_2 rfl rfl rfl ?_
  refine ym_get 6 C hR dX9_isDetector_3 fl_X9_130 (by decide) rfl rfl ?_
  refine yr_iconst 7 C (1) dX9_isDetector_6 rfl rfl ?_
  refine yr_isub 8 C dX9_isDetector_7 rfl ?_
  refine yr_S3v 11 C (mc_in hZ _ _ _ _) dX9_isDetector_8 mt_X9_in ms_X9_in ml_X9_123 (Nat.le_of_ble_eq_true rfl) (Nat.le_of_ble_eq_true rfl) (Nat.le_of_ble_eq_true rfl) (Nat.le_of_ble_eq_true rfl) (Nat.le_of_ble_eq_true rfl) rfl (fun h e => ?_)
  subst e
  refine yr_zret C dX9_isDetector_11 hr ?_ (Nat.le_of_ble_eq_true rfl) (Nat.le_of_ble_eq_true rfl) ?_
  · exact bI_or _
  exact ⟨rfl, hR⟩
set_option maxHeartbeats 4000000 in
set_option maxRecDepth 100000 in
theorem mc_found (hZ : yZok D dA Z) (a : Nat) (ha : a < 5) (q : Int32)  (h : yH) (hR : yMR dA ad m0 (S) h) : yM Z D yX9_found cX9_found 3 none 0 0 0 [.ref m0, .int (nI a), .int q] h (fun r h' => r = none ∧ yMR dA ad m0 (m_found S a q) h') := by
  refine yM_of hZ (by decide) rfl (Nat.le_of_ble_eq_true rfl) ?_
  intro p l e s m args below meth c A C hr hin
  show yW p l e (yR 0 0 0) s m args below meth c 3 D A 0 0 _ 0 [some (.ref m0), some (.int (nI a)), some (.int q)] [] h
  refine yr_aload_n 1 C dX9_found_0 rfl rfl rfl ?_
  refine ym_getA 4 C hR dX9_found_1 fl_X9_108 (by decide) rfl rfl ?_
  refine yr_iload_n 5 C dX9_found_4 rfl rfl ?_
  refine yr_dup2 6 C dX9_found_5 rfl rfl rfl ?_
  refine ym_aldN 7 C hR dX9_found_6 (by decide) rfl rfl ?_ rfl ?_
  · exact ha
  refine yr_iconst 8 C (1) dX9_found_7 rfl rfl ?_
  refine yr_iadd 9 C dX9_found_8 rfl ?_
  refine ym_astN 10 C hR dX9_found_9 (by decide) rfl rfl ?_ rfl (fun h hR => ?_)
  · exact ha
  refine yr_aload_n 11 C dX9_found_10 rfl rfl rfl ?_
  refine yr_iload_n 12 C dX9_found_11 rfl rfl ?_
  refine ym_put 15 C hR dX9_found_12 fp_X9_166 (by decide) rfl rfl (fun h hR => ?_)
  refine yr_aload_n 16 C dX9_found_15 rfl rfl rfl ?_
  refine yr_iload_n 17 C dX9_found_16 rfl rfl ?_
  refine ym_put 20 C hR dX9_found_17 fp_X9_111 (by decide) rfl rfl (fun h hR => ?_)
  refine yr_vret C dX9_found_20 hr (Nat.le_of_ble_eq_true rfl) (Nat.le_of_ble_eq_true rfl) ?_
  exact ⟨rfl, hR⟩
end M1
