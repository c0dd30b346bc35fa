/-! what holds of the start beside the tables: array classes, casts, the private constructors' links, ArrayList's empty array at t0, the mirror of Object[] at mi -/
def yZx (t0 mi : Nat) (A : Nat → Prop) (U : State) : Prop :=
  (va_AO "CrossingKeeper$Phase" U ∧ va_AO "java/lang/Object" U) ∧
  (va_Nw (.castable "CrossingKeeper$Phase" "java/lang/Object") U ∧ va_Nw (.castable "CrossingKeeper$Stage" "java/lang/Object") U ∧ va_Nw (.castable "CrossingKeeper$Detector" "java/lang/Object") U ∧ va_Nw (.castable "CrossingKeeper$Order" "java/lang/Object") U ∧ va_Nw (.castable "CrossingKeeper$Pair" "java/lang/Object") U) ∧
  (va_Nw (.methodLinkNest RX8 30 yX3_init RX8) U ∧ va_Nw (.methodLinkNest RX8 37 yX2_init RX8) U ∧ va_Nw (.methodLinkNest RX8 44 yX0_init RX8) U) ∧
  (va_Z "java/util/ArrayList" "DEFAULTCAPACITY_EMPTY_ELEMENTDATA" "[Ljava/lang/Object;" (.ref t0) A U U.heap ∧ va_T (.object "java/lang/Object") t0 0 (fun _ => .null) A U U.heap) ∧
  (va_Mi "[Ljava/lang/Object;" mi U ∧ va_Dc U)
def yZ (t0 mi : Nat) (D : va_G) (dA : Nat → ClassId) (A : Nat → Prop) (U : State) : Prop := va_K D vwCl (yT dA) U ∧ yZx t0 mi A U
theorem yZ_ok (t0 mi : Nat) (D : va_G) (dA : Nat → ClassId) : yZok D dA (yZ t0 mi D dA) := by
  refine ⟨fun A U h => h.1, fun A u U e1 e2 h => ?_, fun A B u U hW hk hAB h => ?_⟩
  · obtain ⟨k, ⟨a1, a2⟩, ⟨b1, b2, b3, b4, b5⟩, ⟨c1, c2, c3⟩, ⟨d1, d2⟩, e, f⟩ := h
    have al : u.vm.Alike U.vm := by rw [e1]; exact Vm.Alike.refl _
    exact ⟨va_K.moved al k, ⟨a1.moved al, a2.moved al⟩, ⟨b1.same rfl e1, b2.same rfl e1, b3.same rfl e1, b4.same rfl e1, b5.same rfl e1⟩, ⟨c1.same rfl e1, c2.same rfl e1, c3.same rfl e1⟩, ⟨by rw [← e2]; exact d1.moved al, by rw [← e2]; exact d2.moved al⟩, e.moved al, f.moved al⟩
  · obtain ⟨k, ⟨a1, a2⟩, ⟨b1, b2, b3, b4, b5⟩, ⟨c1, c2, c3⟩, ⟨d1, d2⟩, e, f⟩ := h
    have al : u.vm.Alike U.vm := hW.alike
    have d1' : va_Z "java/util/ArrayList" "DEFAULTCAPACITY_EMPTY_ELEMENTDATA" "[Ljava/lang/Object;" (.ref t0) B U U.heap := by
      obtain ⟨cf, kf, fi, ff, a, cell, g1, g2, g3, g4, g5, g6, g7, g8⟩ := (d1.moved al).kept hk
      have ha : a < u.heap.size := by
        obtain ⟨_, _, _, _, a', cell', q1, q2, q3, q4, q5, -, -, -⟩ := d1.moved al
        have : a' = a := by
          rw [g1] at q1
          cases q1
          rw [g4] at q4
          cases q4
          rfl
        subst this
        exact (Array.getElem?_eq_some_iff.mp q5).1
      exact ⟨cf, kf, fi, ff, a, cell, g1, g2, g3, g4, g5, g6, g7, fun q => g8 (hAB a ha q)⟩
    have d2' : va_T (.object "java/lang/Object") t0 0 (fun _ => .null) B U U.heap := by
      obtain ⟨cell, g1, g2, g3, g4, g5, g6, g7⟩ := (d2.moved al).kept hk
      have ha : t0 < u.heap.size := by
        obtain ⟨_, q1, -⟩ := d2
        exact (Array.getElem?_eq_some_iff.mp q1).1
      exact ⟨cell, g1, g2, g3, g4, g5, g6, fun q => g7 (hAB t0 ha q)⟩
    exact ⟨va_K.moved al k, ⟨a1.moved al, a2.moved al⟩, ⟨b1.warmC hW, b2.warmC hW, b3.warmC hW, b4.warmC hW, b5.warmC hW⟩, ⟨c1.warmM hW, c2.warmM hW, c3.warmM hW⟩, ⟨d1', d2'⟩, e.moved al, f.moved al⟩
section Rows4
variable {Z : (Nat → Prop) → State → Prop} {D : va_G} {dA : Nat → ClassId} {p : Program} {l : Launch} {e : Env} {R : Room} {s : State} {m : MethodId} {args : Array Value} {below : List Frame} {meth : Method} {c : Code} {cc : ByteArray} {nL : Nat} {own : String} {A : Nat → Prop} {cells slots : Nat} {Q : State → Prop} {pc : Nat} {lv : List (Option Value)} {st : List Value} {h : yH}
variable {t0 mi : Nat}
theorem yz_x (C : yC (yZ t0 mi D dA) D dA p s m args meth c cc nL own A) : yZx t0 mi A s := C.2.2.2.2.2.2.2.2.1.2
def yFs (own : String) (idx : Nat) : Prop := Cond.fieldLink own idx "java/util/ArrayList" "modCount" "I" ∈ yTs
theorem yr_getM (pc2 : Nat) (C : yC Z D dA p s m args meth c cc nL own A) {idx a : Nat} {fs : List Value} {v : Value} (d : decode cc pc = .ok (.getfield idx, 3)) (hl : yFs own idx) (hs : Cond.sameField "java/util/ArrayList" "java/util/AbstractList" "modCount" "I" ∈ yTs) (ha : h a = some (.inr (0, fs))) (hv : fs[0]? = some v) (hp : pc + 3 = pc2) (k : yW p l e R s m args below meth c nL D A cells slots Q pc2 lv (v :: st) (h)) : yW p l e R s m args below meth c nL D A cells slots Q pc lv (.ref a :: st) (h) := fun H locs ls a1 b w => by
  subst hp
  obtain ⟨ws, q0, hP, hD, hq, -⟩ := yd_pos b ha
  exact va_get (C := RJx4a65c) (T := TJx4a65c) (N := 3) (ref := "java/util/ArrayList") C.1 C.2.1 C.2.2.2.2.1 it_Jx4a65c C.2.2.2.1 C.2.2.2.2.2.1 hP q0 hq rfl 0 (by decide) (C.2.2.2.2.1 _ hl) (fun x q => u_same (C.2.2.2.2.1 _ hs) x q) hv d (k H locs ls a1 b w)
theorem yr_putM (pc2 : Nat) (C : yC Z D dA p s m args meth c cc nL own A) {idx a : Nat} {fs : List Value} {v : Int32} (d : decode cc pc = .ok (.putfield idx, 3)) (hl : yFs own idx) (hs : Cond.sameField "java/util/ArrayList" "java/util/AbstractList" "modCount" "I" ∈ yTs) (ha : h a = some (.inr (0, fs))) (hlen : 0 < fs.length) (hp : pc + 3 = pc2) (kk : yW p l e R s m args below meth c nL D A cells slots Q pc2 lv (st) (va_up h a (some (.inr (0, fs.set 0 (.int v)))))) : yW p l e R s m args below meth c nL D A cells slots Q pc lv (.int v :: .ref a :: st) (h) := fun H locs ls a1 b w => by
  subst hp
  obtain ⟨ws, q0, hP, hD, hq, hset, -⟩ := yd_pos b ha
  exact va_put (C := RJx4a65c) (T := TJx4a65c) (N := 3) (ref := "java/util/ArrayList") C.1 C.2.1 C.2.2.2.2.1 it_Jx4a65c tyJx4a65c tyJx4a65c_ok nmJx4a65c C.2.2.2.1 C.2.2.2.2.2.1 hP hD w q0 hq rfl 0 (by decide) (C.2.2.2.2.1 _ hl) (fun x q => u_same (C.2.2.2.2.1 _ hs) x q) rfl (tyJx4a65c_ok 0 (by decide)) rfl rfl hlen d (fun H1 locs1 hP1 hD1 hS1 => kk H1 locs1 ls a1 (hset _ H1 hP1 hD1) hS1)
theorem yr_gets (pc2 : Nat) (C : yC (yZ t0 mi D dA) D dA p s m args meth c cc nL own A) {idx : Nat} (d : decode cc pc = .ok (.getstatic idx, 3)) (hl : Cond.fieldLink own idx "java/util/ArrayList" "DEFAULTCAPACITY_EMPTY_ELEMENTDATA" "[Ljava/lang/Object;" ∈ yTs) (hp : pc + 3 = pc2) (k : yW p l e R s m args below meth c nL D A cells slots Q pc2 lv (.ref t0 :: st) (h)) : yW p l e R s m args below meth c nL D A cells slots Q pc lv (st) (h) := fun H locs ls a1 b w => by
  subst hp
  exact va_gets C.1 C.2.1 (yz_x C).2.2.2.1.1 w C.2.2.2.1 (C.2.2.2.2.1 _ hl) (fun _ q => q) d (k H locs ls a1 b w)
theorem yr_tlen (pc2 : Nat) (C : yC (yZ t0 mi D dA) D dA p s m args meth c cc nL own A) (d : decode cc pc = .ok (.arraylength, 1)) (hp : pc + 1 = pc2) (k : yW p l e R s m args below meth c nL D A cells slots Q pc2 lv (.int 0 :: st) (h)) : yW p l e R s m args below meth c nL D A cells slots Q pc lv (.ref t0 :: st) (h) := fun H locs ls a1 b w => by
  subst hp
  exact va_tlen C.1 C.2.1 (yz_x C).2.2.2.1.2 w rfl d (k H locs ls a1 b w)
theorem yr_aald (pc2 t : Nat) (C : yC Z D dA p s m args meth c cc nL own A) {a n : Nat} {f : Nat → Option Nat} {E : String} {i : Nat} (d : decode cc pc = .ok (.aaload, 1)) (ht : (yT dA)[t]? = some (dA t, .object E)) (ha : h a = some (.inl (dA t, n, .inr (.inr (.inr (.inr f)))))) (hi : i < n) (hn : n < 2 ^ 31) (hp : pc + 1 = pc2) (k : yW p l e R s m args below meth c nL D A cells slots Q pc2 lv (va_rf (f i) :: st) (h)) : yW p l e R s m args below meth c nL D A cells slots Q pc lv (.int (nI i) :: .ref a :: st) (h) := fun H locs ls a1 b w => by
  subst hp
  obtain ⟨ws, q0, hP, hD, hq, -⟩ := yd_pos b ha
  refine va_aldq C.1 C.2.1 C.2.2.2.2.2.1 hP q0 t hq ht (vp_in_nI hi hn) d ?_
  rw [nI_clamp (by omega)]
  exact k H locs ls a1 b w
theorem yr_aastN (pc2 t : Nat) (C : yC Z D dA p s m args meth c cc nL own A) {a n : Nat} {f : Nat → Option Nat} {E : String} {i : Nat} (d : decode cc pc = .ok (.aastore, 1)) (ht : (yT dA)[t]? = some (dA t, .object E)) (ha : h a = some (.inl (dA t, n, .inr (.inr (.inr (.inr f)))))) (hi : i < n) (hn : n < 2 ^ 31) (hp : pc + 1 = pc2) (k : yW p l e R s m args below meth c nL D A cells slots Q pc2 lv (st) (va_up h a (some (.inl (dA t, n, .inr (.inr (.inr (.inr (va_up f i none))))))))) : yW p l e R s m args below meth c nL D A cells slots Q pc lv (.null :: .int (nI i) :: .ref a :: st) (h) := fun H locs ls a1 b w => by
  subst hp
  obtain ⟨ws, q0, hP, hD, hq, hset, -⟩ := yd_pos b ha
  refine va_astqN C.1 C.2.1 C.2.2.2.2.2.1 hP hD w q0 t hq ht (vp_in_nI hi hn) d (fun H1 locs1 hP1 hD1 hS1 => ?_)
  rw [nI_clamp (by omega)] at hP1 hD1
  exact k H1 locs1 ls a1 (hset _ H1 hP1 hD1) hS1
theorem yr_aastO (pc2 t : Nat) (C : yC Z D dA p s m args meth c cc nL own A) {a n v ci : Nat} {f : Nat → Option Nat} {E : String} {r : vw_C} {vs : List Value} {i : Nat} (d : decode cc pc = .ok (.aastore, 1)) (ht : (yT dA)[t]? = some (dA t, .object E)) (ha : h a = some (.inl (dA t, n, .inr (.inr (.inr (.inr f)))))) (hv : h v = some (.inr (ci, vs))) (hc : vwCl[ci]? = some r) (hca : va_Nw (.castable r.1 E) s ∨ r.1 = E) (hi : i < n) (hn : n < 2 ^ 31) (hp : pc + 1 = pc2) (k : yW p l e R s m args below meth c nL D A cells slots Q pc2 lv (st) (va_up h a (some (.inl (dA t, n, .inr (.inr (.inr (.inr (va_up f i (some v)))))))))) : yW p l e R s m args below meth c nL D A cells slots Q pc lv (.ref v :: .int (nI i) :: .ref a :: st) (h) := fun H locs ls a1 b w => by
  subst hp
  obtain ⟨ws, q0, hP, hD, hq, hset, hoth⟩ := yd_pos b ha
  obtain ⟨qk, hqk⟩ := hoth v _ hv
  rcases hca with hca | hca
  · refine va_astqO C.1 C.2.1 C.2.2.2.2.2.1 hP hD w q0 t qk ci hq ht hca hqk hc (vp_in_nI hi hn) d (fun H1 locs1 hP1 hD1 hS1 => ?_)
    rw [nI_clamp (by omega)] at hP1 hD1
    exact k H1 locs1 ls a1 (hset _ H1 hP1 hD1) hS1
  · subst hca
    refine va_astq C.1 C.2.1 C.2.2.2.2.2.1 hP hD w q0 t qk ci hq ht hqk hc (vp_in_nI hi hn) d (fun H1 locs1 hP1 hD1 hS1 => ?_)
    rw [nI_clamp (by omega)] at hP1 hD1
    exact k H1 locs1 ls a1 (hset _ H1 hP1 hD1) hS1
theorem yr_newq (pc2 t : Nat) (C : yC Z D dA p s m args meth c cc nL own A) {E : String} {idx N : Nat} (d : decode cc pc = .ok (.anewarray idx, 3)) (ht : (yT dA)[t]? = some (dA t, .object E)) (hl : Cond.classLink own idx E ∈ yTs) (hov : va_AO E s) (hN : N < 2 ^ 20) (h1 : cells + 1 ≤ R.cells) (h2 : slots + N ≤ R.slots) (hp : pc + 3 = pc2) (kk : ∀ q : Nat, h q = none → yW p l e R s m args below meth c nL D A (cells + 1) (slots + N) Q pc2 lv (.ref q :: st) (va_up h q (some (.inl (dA t, N, .inr (.inr (.inr (.inr (fun _ => none))))))))) : yW p l e R s m args below meth c nL D A cells slots Q pc lv (.int (nI N) :: st) (h) := fun H locs ls a1 b w => by
  subst hp
  obtain ⟨ws, hP, hD, hpush⟩ := yd_list b
  have hK := C.2.2.2.2.2.1
  refine va_newq C.1 C.2.1 C.2.2.2.1 (C.2.2.2.2.1 _ hl) hov hK hP hD w C.2.2.2.2.2.2.2.1 (nI_pos (by omega)) (nI_clamp (by omega)) (by omega) h1 h2 d (fun q cA H1 hK1 hP1 hD1 hS1 => ?_)
  have e1 : va_RA s cA (.object E) := (hK1.2 6 (cA, .object E) rfl).2
  have e2 : va_RA s (dA t) (.object E) := (hK.2 t (dA t, .object E) ht).2
  obtain ⟨-, -, -, -, -, g1⟩ := e1
  obtain ⟨-, -, -, -, -, g2⟩ := e2
  have e3 : cA = dA t := Option.some.inj (g1.symm.trans g2)
  subst e3
  exact kk q (hpush _ _ _ hP1 hD1).1 H1 locs ls a1 (hpush _ _ _ hP1 hD1).2 hS1
theorem yr_cast (pc2 : Nat) (C : yC Z D dA p s m args meth c cc nL own A) {idx a ci : Nat} {fs : List Value} {r : vw_C} (d : decode cc pc = .ok (.checkcast idx, 3)) (ha : h a = some (.inr (ci, fs))) (hc : vwCl[ci]? = some r) (hl : Cond.classLink own idx r.1 ∈ yTs) (hp : pc + 3 = pc2) (k : yW p l e R s m args below meth c nL D A cells slots Q pc2 lv (.ref a :: st) (h)) : yW p l e R s m args below meth c nL D A cells slots Q pc lv (.ref a :: st) (h) := fun H locs ls a1 b w => by
  subst hp
  obtain ⟨ws, q0, hP, hD, hq, -⟩ := yd_pos b ha
  exact va_castS C.1 C.2.1 C.2.2.2.1 (C.2.2.2.2.1 _ hl) (C.2.2.2.2.2.1.1 ci r hc).2 (va_recv C.2.2.2.2.2.1 hP hc hq) d (k H locs ls a1 b w)
theorem yr_ldc (pc2 : Nat) (C : yC Z D dA p s m args meth c cc nL own A) {idx : Nat} (v : Int32) (d : decode cc pc = .ok (.ldc idx, 2)) (hl : Cond.constant own idx v ∈ yTs) (hp : pc + 2 = pc2) (k : yW p l e R s m args below meth c nL D A cells slots Q pc2 lv (.int v :: st) (h)) : yW p l e R s m args below meth c nL D A cells slots Q pc lv (st) (h) := fun H locs ls a1 b w => by
  subst hp
  exact lv_ldc C.1 C.2.1 C.2.2.2.1 (C.2.2.2.2.1 _ hl) d (k H locs ls a1 b w)
theorem yr_ldcM (pc2 : Nat) (C : yC (yZ t0 mi D dA) D dA p s m args meth c cc nL own A) {idx : Nat} (d : decode cc pc = .ok (.ldc idx, 2)) (hl : Cond.classLink own idx "[Ljava/lang/Object;" ∈ yTs) (hp : pc + 2 = pc2) (k : yW p l e R s m args below meth c nL D A cells slots Q pc2 lv (.ref mi :: st) (h)) : yW p l e R s m args below meth c nL D A cells slots Q pc lv (st) (h) := fun H locs ls a1 b w => by
  subst hp
  exact va_ldcM C.1 C.2.1 C.2.2.2.1 (C.2.2.2.2.1 _ hl) (yz_x C).2.2.2.2.1 d (k H locs ls a1 b w)
theorem yr_NI0u (pc2 : Nat) (C : yC Z D dA p s m args meth c cc nL own A) {y : MethodName} {cc' : ByteArray} {nL' : Nat} {k mc ms idx : Nat} {PP : yH → Prop} {a : Nat} {host : String} (hM : yM Z D y cc' nL' none k mc ms [.ref a] h (fun r h' => r = none ∧ PP h')) (d : decode cc pc = .ok (.invokespecial idx, 3)) (ht : yMt y cc' nL' none 0) (hy : y.name = "<init>") (hv : Cond.instanceMethod y ∈ yTs) (hl : va_Nw (.methodLinkNest own idx y host) s) (h1 : k + 1 ≤ R.frames) (h2 : 8 + (nL' + 11) + 40 * k ≤ R.locals) (h3 : cells + mc ≤ R.cells) (h4 : slots + ms ≤ R.slots) (h5 : (st.map fun v => v.category).sum ≤ 8) (hp : pc + 3 = pc2) (kk : ∀ h' : yH, PP h' → yW p l e R s m args below meth c nL D A (cells + mc) (slots + ms) Q pc2 lv (st) (h')) : yW p l e R s m args below meth c nL D A cells slots Q pc lv (.ref a :: st) (h) := fun H locs ls a1 b w => by
  subst hp
  obtain ⟨lw, q1, q2⟩ := id a1
  obtain ⟨t1, t2, t3, t4, t5⟩ := ht
  refine yr_after C (B := none) a1 b w (va_runIN (As := []) (rest := st) ⟨C.1, C.2.1, C.2.2.1, C.2.2.2.1, C.2.2.2.2.1⟩ (hM l H.size) ⟨va_cnB 0 C.2.2.2.2.1 (yt_code t1) rfl rfl rfl hl (C.2.2.2.2.1 _ t2) ⟨t3, t4, t5⟩ ⟨h1, h2⟩, hy, C.2.2.2.2.1 _ hv⟩ ⟨yd_blind C.2.2.2.2.2.2.2.2.2, fun U hU hW => ⟨rfl, yd_pre C.2.2.2.2.2.2.2.2.1 C.2.2.2.2.2.2.2.2.2 C.2.2.2.2.2.2.2.1 b w U hU hW⟩⟩ rfl rfl q1.1 rfl (lv_room h5) d ⟨h3, h4⟩) (fun r h' hq => ?_)
  obtain ⟨rfl, hq⟩ := hq
  exact kk h' hq
end Rows4
theorem fs_Jx4a65c_63 : yFs RJx4a65c 63 := yt_in 45 (by decide +kernel) rfl
theorem sf_mod : Cond.sameField "java/util/ArrayList" "java/util/AbstractList" "modCount" "I" ∈ yTs := yt_in 46 (by decide +kernel) rfl
theorem fl_def : Cond.fieldLink RJx4a65c 39 "java/util/ArrayList" "DEFAULTCAPACITY_EMPTY_ELEMENTDATA" "[Ljava/lang/Object;" ∈ yTs := yt_in 40 (by decide +kernel) rfl
theorem fp_Jxc12de_7 : yFp RJxc12de 7 0 0 .int false := ⟨RJx4a65c, TJx4a65c, 3, tyJx4a65c, rfl, by decide, it_Jx4a65c, yt_in 44 (by decide +kernel) rfl, tyJx4a65c_ok, nmJx4a65c, rfl, rfl, fun h => by cases h⟩
theorem cl_X8_7 : Cond.classLink RX8 7 "java/util/ArrayList" ∈ yTs := yt_in 28 (by decide +kernel) rfl
theorem cl_X8_28 : Cond.classLink RX8 28 "CrossingKeeper$Findings" ∈ yTs := yt_in 54 (by decide +kernel) rfl
theorem cl_X8_35 : Cond.classLink RX8 35 "CrossingKeeper$Faults" ∈ yTs := yt_in 73 (by decide +kernel) rfl
theorem cl_X8_42 : Cond.classLink RX8 42 "CrossingKeeper$Bodies" ∈ yTs := yt_in 100 (by decide +kernel) rfl
theorem cl_X8_79 : Cond.classLink RX8 79 "CrossingKeeper$Phase" ∈ yTs := yt_in 168 (by decide +kernel) rfl
theorem cl_X8_103 : Cond.classLink RX8 103 "CrossingKeeper$Stage" ∈ yTs := yt_in 337 (by decide +kernel) rfl
theorem cl_X8_128 : Cond.classLink RX8 128 "CrossingKeeper$Detector" ∈ yTs := yt_in 386 (by decide +kernel) rfl
theorem cl_X8_152 : Cond.classLink RX8 152 "CrossingKeeper$Order" ∈ yTs := yt_in 438 (by decide +kernel) rfl
theorem cl_X8_161 : Cond.classLink RX8 161 "CrossingKeeper$Pair" ∈ yTs := yt_in 469 (by decide +kernel) rfl
theorem cl_X7_9 : Cond.classLink RX7 9 "CrossingKeeper$Phase" ∈ yTs := yt_in 355 (by decide +kernel) rfl
theorem cl_L_7 : Cond.classLink RL 7 "CrossingKeeper" ∈ yTs := yt_in 20 (by decide +kernel) rfl
theorem cl_L_10 : Cond.classLink RL 10 "CrossingKeeperModel" ∈ yTs := yt_in 790 (by decide +kernel) rfl
theorem cl_Jx4a65c_7 : Cond.classLink RJx4a65c 7 "java/lang/Object" ∈ yTs := yt_in 311 (by decide +kernel) rfl
theorem cl_J7_2 : Cond.classLink RJ7 2 "java/lang/Object" ∈ yTs := yt_in 303 (by decide +kernel) rfl
theorem cl_J7_110 : Cond.classLink RJ7 110 "[Ljava/lang/Object;" ∈ yTs := yt_in 301 (by decide +kernel) rfl
theorem cn_J8_200 : Cond.constant RJ8 200 2147483639 ∈ yTs := yt_in 276 (by decide +kernel) rfl
