section Rows5
variable {Z : (Nat → Prop) → State → Prop} {D : va_G} {dA : Nat → ClassId} {p : Program} {l : Launch} {e : Env} {R : Room} {s : State} {m : MethodId} {args : Array Value} {below : List Frame} {meth : Method} {c : Code} {cc : ByteArray} {nL : Nat} {own : String} {A : Nat → Prop} {cells slots : Nat} {Q : State → Prop} {pc : Nat} {lv : List (Option Value)} {st : List Value} {h : yH}
variable {t0 mi : Nat}
theorem sy_in : Cond.initialized "java/lang/System" ∈ yTs := yt_in 13 (by decide +kernel) rfl
theorem ay_n : Cond.native arraycopyName ∈ yTs := yt_in 309 (by decide +kernel) rfl
theorem ay_s : Cond.static arraycopyName ∈ yTs := yt_in 308 (by decide +kernel) rfl
theorem ml_Jx4a65c_112 : Cond.methodLink RJx4a65c 112 arraycopyName ∈ yTs := yt_in 524 (by decide +kernel) rfl
theorem ml_J7_150 : Cond.methodLink RJ7 150 arraycopyName ∈ yTs := yt_in 307 (by decide +kernel) rfl
theorem ml_J7_86 : Cond.methodLink RJ7 86 ⟨"java/lang/Object", "getClass", "()Ljava/lang/Class;"⟩ ∈ yTs := yt_in 283 (by decide +kernel) rfl
theorem gc_i : Cond.instanceMethod ⟨"java/lang/Object", "getClass", "()Ljava/lang/Class;"⟩ ∈ yTs := yt_in 284 (by decide +kernel) rfl
theorem gc_n : Cond.native ⟨"java/lang/Object", "getClass", "()Ljava/lang/Class;"⟩ ∈ yTs := yt_in 297 (by decide +kernel) rfl
theorem gc_s : Cond.selects "[Ljava/lang/Object;" ⟨"java/lang/Object", "getClass", "()Ljava/lang/Class;"⟩ ⟨"java/lang/Object", "getClass", "()Ljava/lang/Class;"⟩ ∈ yTs := yt_in 1166 (by decide +kernel) rfl
theorem yr_acopy (pc2 : Nat) (C : yC Z D dA p s m args meth c cc nL own A) {idx a0 a n0 n1 : Nat} {f g : Nat → Option Nat} (sp dp n : Nat) (d : decode cc pc = .ok (.invokestatic idx, 3)) (hl : Cond.methodLink own idx arraycopyName ∈ yTs) (ha0 : h a0 = some (.inl (dA 5, n0, yQ f))) (ha : h a = some (.inl (dA 5, n1, yQ g))) (h4 : sp + n ≤ n0) (h5 : dp + n ≤ n1) (hn0 : n0 < 2 ^ 20) (hn1 : n1 < 2 ^ 20)
    (hel : ∀ i, i < n → ∀ y, f (sp + i) = some y → ∃ (ci : Nat) (vs : List Value) (r : vw_C), h y = some (.inr (ci, vs)) ∧ vwCl[ci]? = some r ∧ va_Nw (.castable r.1 "java/lang/Object") s) (hfr : 1 ≤ R.frames) (hlo : (st.map fun v => v.category).sum + 30 ≤ R.locals) (hp : pc + 3 = pc2) (kk : yW p l e R s m args below meth c nL D A cells slots Q pc2 lv (st) (va_up h a (some (.inl (dA 5, n1, yQ (va_cpy f g sp dp n)))))) : yW p l e R s m args below meth c nL D A cells slots Q pc lv (.int (nI n) :: .int (nI dp) :: .ref a :: .int (nI sp) :: .ref a0 :: st) (h) := fun H locs ls a1 b w => by
  subst hp
  obtain ⟨lw, q1, q2⟩ := id a1
  obtain ⟨ws, k1, hP, hD, hq1, hset, hoth⟩ := yd_pos b ha
  obtain ⟨k0, hq0⟩ := hoth a0 _ ha0
  have hK := C.2.2.2.2.2.1
  have hw : nativeFrameWords "java/lang/System" "arraycopy" 5 ≤ 15 := by decide
  have c1 : (nI sp).toNatClampNeg = sp := nI_clamp (by omega)
  have c2 : (nI dp).toNatClampNeg = dp := nI_clamp (by omega)
  have c3 : (nI n).toNatClampNeg = n := nI_clamp (by omega)
  refine va_copyM C.1 C.2.1 (C.2.2.1.trans q1.1.symm) C.2.2.2.1 (C.2.2.2.2.1 _ hl) (C.2.2.2.2.1 _ ay_n) (C.2.2.2.2.1 _ ay_s) (C.2.2.2.2.1 _ sy_in) hK hP hD w k0 k1 5 5 hq0 hq1 rfl rfl (nI_pos (by omega)) (nI_pos (by omega)) (nI_pos (by omega)) (by rw [c1, c3]; exact h4) (by rw [c2, c3]; exact h5) (fun i hi y hy => ?_) hfr (by omega) d (fun H1 locs1 hP1 hD1 hS1 => ?_)
  · rw [c3] at hi
    rw [c1] at hy
    obtain ⟨ci, vs, r, g1, g2, g3⟩ := hel i hi y hy
    obtain ⟨kj, hkj⟩ := hoth y _ g1
    refine va_rAny hK hP hkj g2 (fun comp c0 e1 e2 => ?_)
    obtain ⟨c0', t1, f1, f2, f3⟩ := Cond.castable_spec (va_Nw.use (A := args) rfl g3)
    cases e2.symm.trans f1
    cases e1.symm.trans f2
    exact f3
  · rw [c1, c2, c3] at hP1 hD1
    exact kk H1 locs1 ls a1 (hset _ H1 hP1 hD1) hS1
theorem yr_getC (pc2 : Nat) (C : yC (yZ t0 mi D dA) D dA p s m args meth c cc nL own A) {idx a n : Nat} {f : Nat → Option Nat} (d : decode cc pc = .ok (.invokevirtual idx, 3)) (hl : Cond.methodLink own idx ⟨"java/lang/Object", "getClass", "()Ljava/lang/Class;"⟩ ∈ yTs) (ha : h a = some (.inl (dA 5, n, yQ f))) (hfr : 1 ≤ R.frames) (hlo : (st.map fun v => v.category).sum + 14 ≤ R.locals) (hp : pc + 3 = pc2) (kk : yW p l e R s m args below meth c nL D A cells slots Q pc2 lv (.ref mi :: st) (h)) : yW p l e R s m args below meth c nL D A cells slots Q pc lv (.ref a :: st) (h) := fun H locs ls a1 b w => by
  subst hp
  obtain ⟨lw, q1, q2⟩ := id a1
  obtain ⟨ws, k1, hP, hD, hq1, -⟩ := yd_pos b ha
  have hK := C.2.2.2.2.2.1
  have hc : H[a]? = some (vp_cell (dA 5) (n, yQ f)) := hP k1 _ hq1
  have e2 : va_RA s (dA 5) (.object "java/lang/Object") := (hK.2 5 (dA 5, .object "java/lang/Object") rfl).2
  exact va_getC C.1 C.2.1 (C.2.2.1.trans q1.1.symm) C.2.2.2.1 (C.2.2.2.2.1 _ hl) (va_Dc.use (yz_x C).2.2.2.2.2) (C.2.2.2.2.1 _ gc_s) (C.2.2.2.2.1 _ gc_i) (C.2.2.2.2.1 _ gc_n) (yz_x C).2.2.2.2.1 ⟨_, hc, rfl, va_nmO e2 (by decide)⟩ hfr hlo d (kk H locs ls a1 b w)
theorem yr_V0w (pc2 : Nat) (C : yC Z D dA p s m args meth c cc nL own A) {y : MethodName} {cc' : ByteArray} {nL' : Nat} {ret' : Option FieldType} {k mc ms idx : Nat} {PP : Nat → yH → Prop} {a ci : Nat} {fs : List Value}  (hM : yM Z D y cc' nL' ret' k mc ms (.ref a :: []) h (fun r h' => ∃ q : Nat, r = some (.ref q) ∧ PP q h')) (d : decode cc pc = .ok (.invokevirtual idx, 3)) (ht : yMt y cc' nL' ret' 0) (hv : yMv y) (hl : Cond.methodLink own idx y ∈ yTs) (ha : h a = some (.inr (ci, fs))) (hci : (vwCl[ci]?).map (·.1) = some y.cls) (h1 : k + 1 ≤ R.frames) (h2 : 8 + (nL' + 11) + 40 * k ≤ R.locals) (h3 : cells + mc ≤ R.cells) (h4 : slots + ms ≤ R.slots) (h5 : (st.map fun v => v.category).sum ≤ 8) (hp : pc + 3 = pc2) (kk : ∀ (q : Nat) (h' : yH), PP q h' → yW p l e R s m args below meth c nL D A (cells + mc) (slots + ms) Q pc2 lv (.ref q :: st) (h')) : yW p l e R s m args below meth c nL D A cells slots Q pc lv (.ref a :: st) (h) := by
  refine yr_callV pc2 C [] hM d ht hv hl ha hci rfl h1 h2 h3 h4 h5 hp (fun r h' hq => ?_)
  obtain ⟨q, rfl, hq⟩ := hq
  exact kk q h' hq
theorem yr_V1w (pc2 : Nat) (C : yC Z D dA p s m args meth c cc nL own A) {y : MethodName} {cc' : ByteArray} {nL' : Nat} {ret' : Option FieldType} {k mc ms idx : Nat} {PP : Nat → yH → Prop} {a ci : Nat} {fs : List Value} {v1 : Value} (hM : yM Z D y cc' nL' ret' k mc ms (.ref a :: [v1]) h (fun r h' => ∃ q : Nat, r = some (.ref q) ∧ PP q h')) (d : decode cc pc = .ok (.invokevirtual idx, 3)) (ht : yMt y cc' nL' ret' 1) (hv : yMv y) (hl : Cond.methodLink own idx y ∈ yTs) (ha : h a = some (.inr (ci, fs))) (hci : (vwCl[ci]?).map (·.1) = some y.cls) (h1 : k + 1 ≤ R.frames) (h2 : 8 + (nL' + 11) + 40 * k ≤ R.locals) (h3 : cells + mc ≤ R.cells) (h4 : slots + ms ≤ R.slots) (h5 : (st.map fun v => v.category).sum ≤ 8) (hp : pc + 3 = pc2) (kk : ∀ (q : Nat) (h' : yH), PP q h' → yW p l e R s m args below meth c nL D A (cells + mc) (slots + ms) Q pc2 lv (.ref q :: st) (h')) : yW p l e R s m args below meth c nL D A cells slots Q pc lv (v1 :: .ref a :: st) (h) := by
  refine yr_callV pc2 C [v1] hM d ht hv hl ha hci rfl h1 h2 h3 h4 h5 hp (fun r h' hq => ?_)
  obtain ⟨q, rfl, hq⟩ := hq
  exact kk q h' hq
theorem yr_S2w (pc2 : Nat) (C : yC Z D dA p s m args meth c cc nL own A) {y : MethodName} {cc' : ByteArray} {nL' : Nat} {ret' : Option FieldType} {k mc ms idx : Nat} {PP : Nat → yH → Prop} {v1 v2 : Value} (hM : yM Z D y cc' nL' ret' k mc ms [v1, v2] h (fun r h' => ∃ q : Nat, r = some (.ref q) ∧ PP q h')) (d : decode cc pc = .ok (.invokestatic idx, 3)) (ht : yMt y cc' nL' ret' 2) (hs : Cond.static y ∈ yTs) (hl : Cond.methodLink own idx y ∈ yTs) (h1 : k + 1 ≤ R.frames) (h2 : 8 + (nL' + 11) + 40 * k ≤ R.locals) (h3 : cells + mc ≤ R.cells) (h4 : slots + ms ≤ R.slots) (h5 : (st.map fun v => v.category).sum ≤ 8) (hp : pc + 3 = pc2) (kk : ∀ (q : Nat) (h' : yH), PP q h' → yW p l e R s m args below meth c nL D A (cells + mc) (slots + ms) Q pc2 lv (.ref q :: st) (h')) : yW p l e R s m args below meth c nL D A cells slots Q pc lv (v2 :: v1 :: st) (h) := by
  refine yr_callS pc2 C [v1, v2] hM d ht hs hl rfl h1 h2 h3 h4 h5 hp (fun r h' hq => ?_)
  obtain ⟨q, rfl, hq⟩ := hq
  exact kk q h' hq
theorem yr_S3w (pc2 : Nat) (C : yC Z D dA p s m args meth c cc nL own A) {y : MethodName} {cc' : ByteArray} {nL' : Nat} {ret' : Option FieldType} {k mc ms idx : Nat} {PP : Nat → yH → Prop} {v1 v2 v3 : Value} (hM : yM Z D y cc' nL' ret' k mc ms [v1, v2, v3] h (fun r h' => ∃ q : Nat, r = some (.ref q) ∧ PP q h')) (d : decode cc pc = .ok (.invokestatic idx, 3)) (ht : yMt y cc' nL' ret' 3) (hs : Cond.static y ∈ yTs) (hl : Cond.methodLink own idx y ∈ yTs) (h1 : k + 1 ≤ R.frames) (h2 : 8 + (nL' + 11) + 40 * k ≤ R.locals) (h3 : cells + mc ≤ R.cells) (h4 : slots + ms ≤ R.slots) (h5 : (st.map fun v => v.category).sum ≤ 8) (hp : pc + 3 = pc2) (kk : ∀ (q : Nat) (h' : yH), PP q h' → yW p l e R s m args below meth c nL D A (cells + mc) (slots + ms) Q pc2 lv (.ref q :: st) (h')) : yW p l e R s m args below meth c nL D A cells slots Q pc lv (v3 :: v2 :: v1 :: st) (h) := by
  refine yr_callS pc2 C [v1, v2, v3] hM d ht hs hl rfl h1 h2 h3 h4 h5 hp (fun r h' hq => ?_)
  obtain ⟨q, rfl, hq⟩ := hq
  exact kk q h' hq
end Rows5
section JDK2
variable {D : va_G} {dA : Nat → ClassId} {t0 mi : Nat}
set_option maxHeartbeats 4000000 in
set_option maxRecDepth 100000 in
theorem jc_ACi (a : Nat) (h : yH)  : yM (yZ t0 mi D dA) D yJxa1e45_init_da8c8 cJxa1e45_init_da8c8 1 none 1 0 0 [.ref a] h (fun r h' => r = none ∧ h' = h) := by
  refine yM_of (yZ_ok t0 mi D dA) (by decide) rfl (Nat.le_of_ble_eq_true rfl) ?_
  intro p l e s m args below meth c A C hr hin
  show yW p l e (yR 1 0 0) s m args below meth c 1 D A 0 0 _ 0 [some (.ref a)] [] h
  refine yr_aload_n 1 C dJxa1e45_init_da8c8_0 rfl rfl rfl ?_
  refine yr_objInit 4 C dJxa1e45_init_da8c8_1 ml_Jxa1e45_1 oi_i oi_c (Nat.le_of_ble_eq_true rfl) (Nat.le_of_ble_eq_true rfl) rfl ?_
  refine yr_vret C dJxa1e45_init_da8c8_4 hr (Nat.le_of_ble_eq_true rfl) (Nat.le_of_ble_eq_true rfl) ?_
  exact ⟨rfl, rfl⟩
set_option maxHeartbeats 4000000 in
set_option maxRecDepth 100000 in
theorem jc_ALi (a : Nat) (x v u : Value) (h : yH) (ha : h a = some (.inr (0, [x, v, u]))) : yM (yZ t0 mi D dA) D yJxc12de_init_da8c8 cJxc12de_init_da8c8 1 none 2 0 0 [.ref a] h (fun r h' => r = none ∧ h' = va_up h a (some (.inr (0, [.int 0, v, u])))) := by
  refine yM_of (yZ_ok t0 mi D dA) (by decide) rfl (Nat.le_of_ble_eq_true rfl) ?_
  intro p l e s m args below meth c A C hr hin
  show yW p l e (yR 2 0 0) s m args below meth c 1 D A 0 0 _ 0 [some (.ref a)] [] h
  refine yr_aload_n 1 C dJxc12de_init_da8c8_0 rfl rfl rfl ?_
  refine yr_I0u 4 C (jc_ACi _ _) dJxc12de_init_da8c8_1 mt_Jxa1e45_init_da8c8 rfl mi_Jxa1e45_init_da8c8 ml_Jxc12de_1 (Nat.le_of_ble_eq_true rfl) (Nat.le_of_ble_eq_true rfl) (Nat.le_of_ble_eq_true rfl) (Nat.le_of_ble_eq_true rfl) (Nat.le_of_ble_eq_true rfl) rfl (fun h e => ?_)
  subst e
  refine yr_aload_n 5 C dJxc12de_init_da8c8_4 rfl rfl rfl ?_
  refine yr_iconst 6 C (0) dJxc12de_init_da8c8_5 rfl rfl ?_
  refine yr_put 9 C dJxc12de_init_da8c8_6 fp_Jxc12de_7 ha (Nat.le_of_ble_eq_true rfl) rfl rfl rfl ?_
  refine yr_vret C dJxc12de_init_da8c8_9 hr (Nat.le_of_ble_eq_true rfl) (Nat.le_of_ble_eq_true rfl) ?_
  exact ⟨rfl, rfl⟩
theorem va_up_up {α : Type} (f : Nat → α) (k : Nat) (u v : α) : va_up (va_up f k u) k v = va_up f k v := by
  funext j
  by_cases h : j = k
  · simp [va_up, h]
  · simp [va_up, h]
set_option maxHeartbeats 4000000 in
set_option maxRecDepth 100000 in
theorem jc_init (a : Nat) (x v u : Value) (h : yH) (ha : h a = some (.inr (0, [x, v, u]))) : yM (yZ t0 mi D dA) D yJx4a65c_init_da8c8 cJx4a65c_init_da8c8 1 none 3 0 0 [.ref a] h (fun r h' => r = none ∧ h' = va_up h a (some (.inr (0, [.int 0, .ref t0, u])))) := by
  refine yM_of (yZ_ok t0 mi D dA) (by decide) rfl (Nat.le_of_ble_eq_true rfl) ?_
  intro p l e s m args below meth c A C hr hin
  show yW p l e (yR 3 0 0) s m args below meth c 1 D A 0 0 _ 0 [some (.ref a)] [] h
  refine yr_aload_n 1 C dJx4a65c_init_da8c8_0 rfl rfl rfl ?_
  refine yr_I0u 4 C (jc_ALi _ _ _ _ _ ha) dJx4a65c_init_da8c8_1 mt_Jxc12de_init_da8c8 rfl mi_Jxc12de_init_da8c8 ml_Jx4a65c_1 (Nat.le_of_ble_eq_true rfl) (Nat.le_of_ble_eq_true rfl) (Nat.le_of_ble_eq_true rfl) (Nat.le_of_ble_eq_true rfl) (Nat.le_of_ble_eq_true rfl) rfl (fun h e => ?_)
  subst e
  refine yr_aload_n 5 C dJx4a65c_init_da8c8_4 rfl rfl rfl ?_
  refine yr_gets 8 C dJx4a65c_init_da8c8_5 fl_def rfl ?_
  refine yr_put 11 C dJx4a65c_init_da8c8_8 fp_Jx4a65c_9 (va_up_self' _ _ _) (Nat.le_of_ble_eq_true rfl) rfl rfl rfl ?_
  refine yr_vret C dJx4a65c_init_da8c8_11 hr (Nat.le_of_ble_eq_true rfl) (Nat.le_of_ble_eq_true rfl) ?_
  exact ⟨rfl, by rw [va_up_up]; rfl⟩
set_option maxHeartbeats 4000000 in
set_option maxRecDepth 100000 in
theorem jc_newLen10  (h : yH)  : yM (yZ t0 mi D dA) D yJ8_newLength_cabcc cJ8_newLength_cabcc 4 (some .int) 1 0 0 [.int 10, .int 1, .int 5] h (fun r h' => r = some (.int 15) ∧ h' = h) := by
  refine yM_of (yZ_ok t0 mi D dA) (by decide) rfl (Nat.le_of_ble_eq_true rfl) ?_
  intro p l e s m args below meth c A C hr hin
  show yW p l e (yR 1 0 0) s m args below meth c 4 D A 0 0 _ 0 [some (.int 10), some (.int 1), some (.int 5), none] [] h
  refine yr_iload_n 1 C dJ8_newLength_cabcc_0 rfl rfl ?_
  refine yr_iload_n 2 C dJ8_newLength_cabcc_1 rfl rfl ?_
  refine yr_iload_n 3 C dJ8_newLength_cabcc_2 rfl rfl ?_
  refine yr_S2v 6 C (jc_max _ _ _) dJ8_newLength_cabcc_3 mt_J9_max_7cf53 ms_J9_max_7cf53 ml_J8_194 (Nat.le_of_ble_eq_true rfl) (Nat.le_of_ble_eq_true rfl) (Nat.le_of_ble_eq_true rfl) (Nat.le_of_ble_eq_true rfl) (Nat.le_of_ble_eq_true rfl) rfl (fun h e => ?_)
  subst e
  refine yr_iadd 7 C dJ8_newLength_cabcc_6 rfl ?_
  refine yr_istore3 8 C dJ8_newLength_cabcc_7 (by decide) rfl ?_
  refine yr_iconst 9 C (0) dJ8_newLength_cabcc_8 rfl rfl ?_
  refine yr_iload_n 10 C dJ8_newLength_cabcc_9 rfl rfl ?_
  refine yr_icmp_ge 21 13 C dJ8_newLength_cabcc_10 (by decide) rfl (fun c10 => ?_) (fun c10 => ?_)
  · exact absurd c10 (by decide)
  refine yr_iload_n 14 C dJ8_newLength_cabcc_13 rfl rfl ?_
  refine yr_ldc 16 C 2147483639 dJ8_newLength_cabcc_14 cn_J8_200 rfl ?_
  refine yr_icmp_gt 21 19 C dJ8_newLength_cabcc_16 (by decide) rfl (fun c16 => ?_) (fun c16 => ?_)
  · exact absurd c16 (by decide)
  refine yr_iload_n 20 C dJ8_newLength_cabcc_19 rfl rfl ?_
  refine yr_iret C dJ8_newLength_cabcc_20 hr (Nat.le_of_ble_eq_true rfl) (Nat.le_of_ble_eq_true rfl) ?_
  exact ⟨rfl, rfl⟩
set_option maxHeartbeats 4000000 in
set_option maxRecDepth 100000 in
theorem jc_copy3_10 (ea : Nat) (f : Nat → Option Nat) (h : yH) (he : h ea = some (.inl (dA 5, 10, yQ f))) (hel : ∀ j y, f j = some y → ∃ (ci : Nat) (vs : List Value) (r : vw_C), h y = some (.inr (ci, vs)) ∧ vwCl[ci]? = some r ∧ ∀ (A : Nat → Prop) (U : State), yZ t0 mi D dA A U → va_Nw (.castable r.1 "java/lang/Object") U) : yM (yZ t0 mi D dA) D yJ7_copyOf_6403c cJ7_copyOf_6403c 4 (some (.array (.object "java/lang/Object"))) 1 1 30 [.ref ea, .int 15, .ref mi] h (fun r h' => ∃ q : Nat, r = some (.ref q) ∧ h q = none ∧ h' = va_up h q (some (.inl (dA 5, 15, yQ (va_cpy f (fun _ => none) 0 0 10))))) := by
  refine yM_of (yZ_ok t0 mi D dA) (by decide) rfl (Nat.le_of_ble_eq_true rfl) ?_
  intro p l e s m args below meth c A C hr hin
  show yW p l e (yR 1 1 30) s m args below meth c 4 D A 0 0 _ 0 [some (.ref ea), some (.int 15), some (.ref mi), none] [] h
  refine yr_aload_n 1 C dJ7_copyOf_6403c_0 rfl rfl rfl ?_
  refine yr_ldcM 3 C dJ7_copyOf_6403c_1 cl_J7_110 rfl ?_
  refine yr_acmp_ne 13 6 C (x := some mi) (y := some mi) dJ7_copyOf_6403c_3 (by decide) rfl (fun c3 => absurd rfl c3) (fun _ => ?_)
  refine yr_iload_n 7 C dJ7_copyOf_6403c_6 rfl rfl ?_
  refine yr_newq (N := 15) 10 5 C dJ7_copyOf_6403c_7 rfl cl_J7_2 (yz_x C).1.2 (by decide) (Nat.le_of_ble_eq_true rfl) (Nat.le_of_ble_eq_true rfl) rfl (fun q hq => ?_)
  have hne : ea ≠ q := fun z => by rw [z, hq] at he; cases he
  have he2 := (va_up_ne' h (some (.inl (dA 5, 15, yQ (fun _ => none)))) hne).trans he
  refine yr_goto 24 C dJ7_copyOf_6403c_10 (by decide) ?_
  refine yr_astore3 25 C dJ7_copyOf_6403c_24 rfl (by decide) rfl ?_
  refine yr_aload_n 26 C dJ7_copyOf_6403c_25 rfl rfl rfl ?_
  refine yr_iconst 27 C (0) dJ7_copyOf_6403c_26 rfl rfl ?_
  refine yr_aload_n 28 C dJ7_copyOf_6403c_27 rfl rfl rfl ?_
  refine yr_iconst 29 C (0) dJ7_copyOf_6403c_28 rfl rfl ?_
  refine yr_aload_n 30 C dJ7_copyOf_6403c_29 rfl rfl rfl ?_
  refine yr_alen 31 5 C (10) dJ7_copyOf_6403c_30 he2 rfl rfl rfl ?_
  refine yr_iload_n 32 C dJ7_copyOf_6403c_31 rfl rfl ?_
  refine yr_S2v 35 C (jc_min _ _ _) dJ7_copyOf_6403c_32 mt_J9_min_7cf53 ms_J9_min_7cf53 ml_J7_304 (Nat.le_of_ble_eq_true rfl) (Nat.le_of_ble_eq_true rfl) (Nat.le_of_ble_eq_true rfl) (Nat.le_of_ble_eq_true rfl) (Nat.le_of_ble_eq_true rfl) rfl (fun h e => ?_)
  subst e
  refine yr_acopy 38 C 0 0 10 dJ7_copyOf_6403c_35 ml_J7_150 he2 (va_up_self' _ _ _) (by decide) (by decide) (by decide) (by decide) (fun i hi y hy => ?_) (Nat.le_of_ble_eq_true rfl) (Nat.le_of_ble_eq_true rfl) rfl ?_
  · obtain ⟨ci, vs, r, g1, g2, g3⟩ := hel _ y hy
    refine ⟨ci, vs, r, ?_, g2, g3 _ _ C.2.2.2.2.2.2.2.2.1⟩
    rw [va_up_ne' h _ (fun z => by rw [z, hq] at g1; cases g1)]
    exact g1
  refine yr_aload_n 39 C dJ7_copyOf_6403c_38 rfl rfl rfl ?_
  refine yr_aret C dJ7_copyOf_6403c_39 hr (Or.inr ⟨_, rfl⟩) rfl (Nat.le_of_ble_eq_true rfl) (Nat.le_of_ble_eq_true rfl) ?_
  exact ⟨q, rfl, hq, by rw [va_up_up]⟩
set_option maxHeartbeats 4000000 in
set_option maxRecDepth 100000 in
theorem jc_copy2_10 (ea : Nat) (f : Nat → Option Nat) (h : yH) (he : h ea = some (.inl (dA 5, 10, yQ f))) (hel : ∀ j y, f j = some y → ∃ (ci : Nat) (vs : List Value) (r : vw_C), h y = some (.inr (ci, vs)) ∧ vwCl[ci]? = some r ∧ ∀ (A : Nat → Prop) (U : State), yZ t0 mi D dA A U → va_Nw (.castable r.1 "java/lang/Object") U) : yM (yZ t0 mi D dA) D yJ7_copyOf_1904c cJ7_copyOf_1904c 2 (some (.array (.object "java/lang/Object"))) 2 1 30 [.ref ea, .int 15] h (fun r h' => ∃ q : Nat, r = some (.ref q) ∧ h q = none ∧ h' = va_up h q (some (.inl (dA 5, 15, yQ (va_cpy f (fun _ => none) 0 0 10))))) := by
  refine yM_of (yZ_ok t0 mi D dA) (by decide) rfl (Nat.le_of_ble_eq_true rfl) ?_
  intro p l e s m args below meth c A C hr hin
  show yW p l e (yR 2 1 30) s m args below meth c 2 D A 0 0 _ 0 [some (.ref ea), some (.int 15)] [] h
  refine yr_aload_n 1 C dJ7_copyOf_1904c_0 rfl rfl rfl ?_
  refine yr_iload_n 2 C dJ7_copyOf_1904c_1 rfl rfl ?_
  refine yr_aload_n 3 C dJ7_copyOf_1904c_2 rfl rfl rfl ?_
  refine yr_getC 6 C dJ7_copyOf_1904c_3 ml_J7_86 he (Nat.le_of_ble_eq_true rfl) (Nat.le_of_ble_eq_true rfl) rfl ?_
  refine yr_S3w 9 C (jc_copy3_10 _ _ _ he hel) dJ7_copyOf_1904c_6 mt_J7_copyOf_6403c ms_J7_copyOf_6403c ml_J7_300 (Nat.le_of_ble_eq_true rfl) (Nat.le_of_ble_eq_true rfl) (Nat.le_of_ble_eq_true rfl) (Nat.le_of_ble_eq_true rfl) (Nat.le_of_ble_eq_true rfl) rfl (fun q h hq => ?_)
  refine yr_aret C dJ7_copyOf_1904c_9 hr (Or.inr ⟨_, rfl⟩) rfl (Nat.le_of_ble_eq_true rfl) (Nat.le_of_ble_eq_true rfl) ?_
  exact ⟨q, rfl, hq⟩
set_option maxHeartbeats 4000000 in
set_option maxRecDepth 100000 in
theorem jc_grow1_10 (la ea : Nat) (mc : Int32) (f : Nat → Option Nat) (h : yH) (ha : h la = some (.inr (0, [.int mc, .ref ea, .int 10]))) (he : h ea = some (.inl (dA 5, 10, yQ f))) (hel : ∀ j y, f j = some y → ∃ (ci : Nat) (vs : List Value) (r : vw_C), h y = some (.inr (ci, vs)) ∧ vwCl[ci]? = some r ∧ ∀ (A : Nat → Prop) (U : State), yZ t0 mi D dA A U → va_Nw (.castable r.1 "java/lang/Object") U) : yM (yZ t0 mi D dA) D yJx4a65c_grow_92f84 cJx4a65c_grow_92f84 4 (some (.array (.object "java/lang/Object"))) 3 1 30 [.ref la, .int 11] h (fun r h' => ∃ q : Nat, r = some (.ref q) ∧ h q = none ∧ h' = va_up (va_up h q (some (.inl (dA 5, 15, yQ (va_cpy f (fun _ => none) 0 0 10))))) la (some (.inr (0, [.int mc, .ref q, .int 10])))) := by
  refine yM_of (yZ_ok t0 mi D dA) (by decide) rfl (Nat.le_of_ble_eq_true rfl) ?_
  intro p l e s m args below meth c A C hr hin
  show yW p l e (yR 3 1 30) s m args below meth c 4 D A 0 0 _ 0 [some (.ref la), some (.int 11), none, none] [] h
  refine yr_aload_n 1 C dJx4a65c_grow_92f84_0 rfl rfl rfl ?_
  refine yr_get 4 C dJx4a65c_grow_92f84_1 fl_Jx4a65c_9 ha rfl rfl ?_
  refine yr_alen 5 5 C (10) dJx4a65c_grow_92f84_4 he rfl rfl rfl ?_
  refine yr_istore2 6 C dJx4a65c_grow_92f84_5 (by decide) rfl ?_
  refine yr_iload_n 7 C dJx4a65c_grow_92f84_6 rfl rfl ?_
  refine yr_if_gt 20 10 C dJx4a65c_grow_92f84_7 (by decide) rfl (fun c7 => ?_) (fun c7 => ?_)
  rotate_left
  · exact absurd (by decide) c7
  refine yr_iload_n 21 C dJx4a65c_grow_92f84_20 rfl rfl ?_
  refine yr_iload_n 22 C dJx4a65c_grow_92f84_21 rfl rfl ?_
  refine yr_iload_n 23 C dJx4a65c_grow_92f84_22 rfl rfl ?_
  refine yr_isub 24 C dJx4a65c_grow_92f84_23 rfl ?_
  refine yr_iload_n 25 C dJx4a65c_grow_92f84_24 rfl rfl ?_
  refine yr_iconst 26 C (1) dJx4a65c_grow_92f84_25 rfl rfl ?_
  refine yr_ishr 27 C dJx4a65c_grow_92f84_26 rfl ?_
  rw [show (11 : Int32) - 10 = 1 from by decide, show (10 : Int32) >>> ((1 : Int32) &&& 31) = 5 from by decide]
  refine yr_S3v 30 C (jc_newLen10 _) dJx4a65c_grow_92f84_27 mt_J8_newLength_cabcc ms_J8_newLength_cabcc ml_Jx4a65c_73 (Nat.le_of_ble_eq_true rfl) (Nat.le_of_ble_eq_true rfl) (Nat.le_of_ble_eq_true rfl) (Nat.le_of_ble_eq_true rfl) (Nat.le_of_ble_eq_true rfl) rfl (fun h e => ?_)
  subst e
  refine yr_istore3 31 C dJx4a65c_grow_92f84_30 (by decide) rfl ?_
  refine yr_aload_n 32 C dJx4a65c_grow_92f84_31 rfl rfl rfl ?_
  refine yr_aload_n 33 C dJx4a65c_grow_92f84_32 rfl rfl rfl ?_
  refine yr_get 36 C dJx4a65c_grow_92f84_33 fl_Jx4a65c_9 ha rfl rfl ?_
  refine yr_iload_n 37 C dJx4a65c_grow_92f84_36 rfl rfl ?_
  refine yr_S2w 40 C (jc_copy2_10 _ _ _ he hel) dJx4a65c_grow_92f84_37 mt_J7_copyOf_1904c ms_J7_copyOf_1904c ml_Jx4a65c_66 (Nat.le_of_ble_eq_true rfl) (Nat.le_of_ble_eq_true rfl) (Nat.le_of_ble_eq_true rfl) (Nat.le_of_ble_eq_true rfl) (Nat.le_of_ble_eq_true rfl) rfl (fun q h hq => ?_)
  refine yr_dup_x1 41 C dJx4a65c_grow_92f84_40 rfl rfl rfl ?_
  skip
  obtain ⟨hqn, rfl⟩ := hq
  have hne : la ≠ q := fun z => by rw [z, hqn] at ha; cases ha
  refine yr_put 44 C dJx4a65c_grow_92f84_41 fp_Jx4a65c_9 ((va_up_ne' h _ hne).trans ha) (Nat.le_of_ble_eq_true rfl) rfl rfl rfl ?_
  refine yr_aret C dJx4a65c_grow_92f84_44 hr (Or.inr ⟨_, rfl⟩) rfl (Nat.le_of_ble_eq_true rfl) (Nat.le_of_ble_eq_true rfl) ?_
  exact ⟨q, rfl, hqn, rfl⟩
set_option maxHeartbeats 4000000 in
set_option maxRecDepth 100000 in
theorem jc_grow0_10 (la ea : Nat) (mc : Int32) (f : Nat → Option Nat) (h : yH) (ha : h la = some (.inr (0, [.int mc, .ref ea, .int 10]))) (he : h ea = some (.inl (dA 5, 10, yQ f))) (hel : ∀ j y, f j = some y → ∃ (ci : Nat) (vs : List Value) (r : vw_C), h y = some (.inr (ci, vs)) ∧ vwCl[ci]? = some r ∧ ∀ (A : Nat → Prop) (U : State), yZ t0 mi D dA A U → va_Nw (.castable r.1 "java/lang/Object") U) : yM (yZ t0 mi D dA) D yJx4a65c_grow_d5877 cJx4a65c_grow_d5877 1 (some (.array (.object "java/lang/Object"))) 4 1 30 [.ref la] h (fun r h' => ∃ q : Nat, r = some (.ref q) ∧ h q = none ∧ h' = va_up (va_up h q (some (.inl (dA 5, 15, yQ (va_cpy f (fun _ => none) 0 0 10))))) la (some (.inr (0, [.int mc, .ref q, .int 10])))) := by
  refine yM_of (yZ_ok t0 mi D dA) (by decide) rfl (Nat.le_of_ble_eq_true rfl) ?_
  intro p l e s m args below meth c A C hr hin
  show yW p l e (yR 4 1 30) s m args below meth c 1 D A 0 0 _ 0 [some (.ref la)] [] h
  refine yr_aload_n 1 C dJx4a65c_grow_d5877_0 rfl rfl rfl ?_
  refine yr_aload_n 2 C dJx4a65c_grow_d5877_1 rfl rfl rfl ?_
  refine yr_get 5 C dJx4a65c_grow_d5877_2 fl_Jx4a65c_48 ha rfl rfl ?_
  refine yr_iconst 6 C (1) dJx4a65c_grow_d5877_5 rfl rfl ?_
  refine yr_iadd 7 C dJx4a65c_grow_d5877_6 rfl ?_
  rw [show (10 : Int32) + 1 = 11 from by decide]
  refine yr_V1w 10 C (jc_grow1_10 _ _ _ _ _ ha he hel) dJx4a65c_grow_d5877_7 mt_Jx4a65c_grow_92f84 mv_Jx4a65c_grow_92f84 ml_Jx4a65c_69 ha rfl (Nat.le_of_ble_eq_true rfl) (Nat.le_of_ble_eq_true rfl) (Nat.le_of_ble_eq_true rfl) (Nat.le_of_ble_eq_true rfl) (Nat.le_of_ble_eq_true rfl) rfl (fun q h hq => ?_)
  refine yr_aret C dJx4a65c_grow_d5877_10 hr (Or.inr ⟨_, rfl⟩) rfl (Nat.le_of_ble_eq_true rfl) (Nat.le_of_ble_eq_true rfl) ?_
  exact ⟨q, rfl, hq⟩
set_option maxHeartbeats 4000000 in
set_option maxRecDepth 100000 in
theorem jc_add3_10 (la ea v ci : Nat) (mc : Int32) (f : Nat → Option Nat) (vs : List Value) (r : vw_C) (h : yH) (ha : h la = some (.inr (0, [.int mc, .ref ea, .int 10]))) (he : h ea = some (.inl (dA 5, 10, yQ f))) (hel : ∀ j y, f j = some y → ∃ (ci : Nat) (vs : List Value) (r : vw_C), h y = some (.inr (ci, vs)) ∧ vwCl[ci]? = some r ∧ ∀ (A : Nat → Prop) (U : State), yZ t0 mi D dA A U → va_Nw (.castable r.1 "java/lang/Object") U) (hv : h v = some (.inr (ci, vs))) (hci : vwCl[ci]? = some r) (hca : ∀ (A : Nat → Prop) (U : State), yZ t0 mi D dA A U → va_Nw (.castable r.1 "java/lang/Object") U) (hvl : v ≠ la) : yM (yZ t0 mi D dA) D yJx4a65c_add_72be8 cJx4a65c_add_72be8 4 none 5 1 30 [.ref la, .ref v, .ref ea, .int 10] h (fun r h' => r = none ∧ ∃ q : Nat, h q = none ∧ h' = va_up (va_up h q (some (.inl (dA 5, 15, yQ (va_up (va_cpy f (fun _ => none) 0 0 10) 10 (some v)))))) la (some (.inr (0, [.int mc, .ref q, .int 11])))) := by
  refine yM_of (yZ_ok t0 mi D dA) (by decide) rfl (Nat.le_of_ble_eq_true rfl) ?_
  intro p l e s m args below meth c A C hr hin
  show yW p l e (yR 5 1 30) s m args below meth c 4 D A 0 0 _ 0 [some (.ref la), some (.ref v), some (.ref ea), some (.int 10)] [] h
  refine yr_iload_n 1 C dJx4a65c_add_72be8_0 rfl rfl ?_
  refine yr_aload_n 2 C dJx4a65c_add_72be8_1 rfl rfl rfl ?_
  refine yr_alen 3 5 C (10) dJx4a65c_add_72be8_2 he rfl rfl rfl ?_
  refine yr_icmp_ne 11 6 C dJx4a65c_add_72be8_3 (by decide) rfl (fun c3 => ?_) (fun c3 => ?_)
  · exact absurd c3 (fun z => z rfl)
  refine yr_aload_n 7 C dJx4a65c_add_72be8_6 rfl rfl rfl ?_
  refine yr_V0w 10 C (jc_grow0_10 _ _ _ _ _ ha he hel) dJx4a65c_add_72be8_7 mt_Jx4a65c_grow_d5877 mv_Jx4a65c_grow_d5877 ml_Jx4a65c_129 ha rfl (Nat.le_of_ble_eq_true rfl) (Nat.le_of_ble_eq_true rfl) (Nat.le_of_ble_eq_true rfl) (Nat.le_of_ble_eq_true rfl) (Nat.le_of_ble_eq_true rfl) rfl (fun q h hq => ?_)
  obtain ⟨hqn, rfl⟩ := hq
  refine yr_astore2 11 C dJx4a65c_add_72be8_10 rfl (by decide) rfl ?_
  refine yr_aload_n 12 C dJx4a65c_add_72be8_11 rfl rfl rfl ?_
  refine yr_iload_n 13 C dJx4a65c_add_72be8_12 rfl rfl ?_
  refine yr_aload_n 14 C dJx4a65c_add_72be8_13 rfl rfl rfl ?_
  have hla : la ≠ q := fun z => by rw [z, hqn] at ha; cases ha
  have hv0 : v ≠ q := fun z => by rw [z, hqn] at hv; cases hv
  obtain ⟨ci2, vs2, r2, hv2, hci2, hca2⟩ : ∃ (ci2 : Nat) (vs2 : List Value) (r2 : vw_C), va_up (va_up h q (some (.inl (dA 5, 15, yQ (va_cpy f (fun _ => none) 0 0 10))))) la (some (.inr (0, [.int mc, .ref q, .int 10]))) v = some (.inr (ci2, vs2)) ∧ vwCl[ci2]? = some r2 ∧ va_Nw (.castable r2.1 "java/lang/Object") s := by
    refine ⟨ci, vs, r, ?_, hci, hca _ _ C.2.2.2.2.2.2.2.2.1⟩
    rw [va_up_ne' _ _ hvl, va_up_ne' _ _ hv0]
    exact hv
  refine yr_aastO (i := 10) 15 5 C dJx4a65c_add_72be8_14 rfl ((va_up_ne' _ _ (Ne.symm hla)).trans (va_up_self' _ _ _)) hv2 hci2 (Or.inl hca2) (by decide) (by decide) rfl ?_
  refine yr_aload_n 16 C dJx4a65c_add_72be8_15 rfl rfl rfl ?_
  refine yr_iload_n 17 C dJx4a65c_add_72be8_16 rfl rfl ?_
  refine yr_iconst 18 C (1) dJx4a65c_add_72be8_17 rfl rfl ?_
  refine yr_iadd 19 C dJx4a65c_add_72be8_18 rfl ?_
  rw [show (10 : Int32) + 1 = 11 from by decide]
  refine yr_put 22 C dJx4a65c_add_72be8_19 fp_Jx4a65c_48 ((va_up_ne' _ _ hla).trans (va_up_self' _ _ _)) (Nat.le_of_ble_eq_true rfl) rfl rfl rfl ?_
  refine yr_vret C dJx4a65c_add_72be8_22 hr (Nat.le_of_ble_eq_true rfl) (Nat.le_of_ble_eq_true rfl) ?_
  refine ⟨rfl, q, hqn, ?_⟩
  funext j
  by_cases h1 : j = la
  · subst h1
    simp [va_up, hla]
  · by_cases h2 : j = q
    · subst h2
      simp [va_up, h1]
    · simp [va_up, h1, h2]
set_option maxHeartbeats 4000000 in
set_option maxRecDepth 100000 in
theorem jc_newLen15  (h : yH)  : yM (yZ t0 mi D dA) D yJ8_newLength_cabcc cJ8_newLength_cabcc 4 (some .int) 1 0 0 [.int 15, .int 1, .int 7] h (fun r h' => r = some (.int 22) ∧ h' = h) := by
  refine yM_of (yZ_ok t0 mi D dA) (by decide) rfl (Nat.le_of_ble_eq_true rfl) ?_
  intro p l e s m args below meth c A C hr hin
  show yW p l e (yR 1 0 0) s m args below meth c 4 D A 0 0 _ 0 [some (.int 15), some (.int 1), some (.int 7), none] [] h
  refine yr_iload_n 1 C dJ8_newLength_cabcc_0 rfl rfl ?_
  refine yr_iload_n 2 C dJ8_newLength_cabcc_1 rfl rfl ?_
  refine yr_iload_n 3 C dJ8_newLength_cabcc_2 rfl rfl ?_
  refine yr_S2v 6 C (jc_max _ _ _) dJ8_newLength_cabcc_3 mt_J9_max_7cf53 ms_J9_max_7cf53 ml_J8_194 (Nat.le_of_ble_eq_true rfl) (Nat.le_of_ble_eq_true rfl) (Nat.le_of_ble_eq_true rfl) (Nat.le_of_ble_eq_true rfl) (Nat.le_of_ble_eq_true rfl) rfl (fun h e => ?_)
  subst e
  refine yr_iadd 7 C dJ8_newLength_cabcc_6 rfl ?_
  refine yr_istore3 8 C dJ8_newLength_cabcc_7 (by decide) rfl ?_
  refine yr_iconst 9 C (0) dJ8_newLength_cabcc_8 rfl rfl ?_
  refine yr_iload_n 10 C dJ8_newLength_cabcc_9 rfl rfl ?_
  refine yr_icmp_ge 21 13 C dJ8_newLength_cabcc_10 (by decide) rfl (fun c10 => ?_) (fun c10 => ?_)
  · exact absurd c10 (by decide)
  refine yr_iload_n 14 C dJ8_newLength_cabcc_13 rfl rfl ?_
  refine yr_ldc 16 C 2147483639 dJ8_newLength_cabcc_14 cn_J8_200 rfl ?_
  refine yr_icmp_gt 21 19 C dJ8_newLength_cabcc_16 (by decide) rfl (fun c16 => ?_) (fun c16 => ?_)
  · exact absurd c16 (by decide)
  refine yr_iload_n 20 C dJ8_newLength_cabcc_19 rfl rfl ?_
  refine yr_iret C dJ8_newLength_cabcc_20 hr (Nat.le_of_ble_eq_true rfl) (Nat.le_of_ble_eq_true rfl) ?_
  exact ⟨rfl, rfl⟩
set_option maxHeartbeats 4000000 in
set_option maxRecDepth 100000 in
theorem jc_copy3_15 (ea : Nat) (f : Nat → Option Nat) (h : yH) (he : h ea = some (.inl (dA 5, 15, yQ f))) (hel : ∀ j y, f j = some y → ∃ (ci : Nat) (vs : List Value) (r : vw_C), h y = some (.inr (ci, vs)) ∧ vwCl[ci]? = some r ∧ ∀ (A : Nat → Prop) (U : State), yZ t0 mi D dA A U → va_Nw (.castable r.1 "java/lang/Object") U) : yM (yZ t0 mi D dA) D yJ7_copyOf_6403c cJ7_copyOf_6403c 4 (some (.array (.object "java/lang/Object"))) 1 1 30 [.ref ea, .int 22, .ref mi] h (fun r h' => ∃ q : Nat, r = some (.ref q) ∧ h q = none ∧ h' = va_up h q (some (.inl (dA 5, 22, yQ (va_cpy f (fun _ => none) 0 0 15))))) := by
  refine yM_of (yZ_ok t0 mi D dA) (by decide) rfl (Nat.le_of_ble_eq_true rfl) ?_
  intro p l e s m args below meth c A C hr hin
  show yW p l e (yR 1 1 30) s m args below meth c 4 D A 0 0 _ 0 [some (.ref ea), some (.int 22), some (.ref mi), none] [] h
  refine yr_aload_n 1 C dJ7_copyOf_6403c_0 rfl rfl rfl ?_
  refine yr_ldcM 3 C dJ7_copyOf_6403c_1 cl_J7_110 rfl ?_
  refine yr_acmp_ne 13 6 C (x := some mi) (y := some mi) dJ7_copyOf_6403c_3 (by decide) rfl (fun c3 => absurd rfl c3) (fun _ => ?_)
  refine yr_iload_n 7 C dJ7_copyOf_6403c_6 rfl rfl ?_
  refine yr_newq (N := 22) 10 5 C dJ7_copyOf_6403c_7 rfl cl_J7_2 (yz_x C).1.2 (by decide) (Nat.le_of_ble_eq_true rfl) (Nat.le_of_ble_eq_true rfl) rfl (fun q hq => ?_)
  have hne : ea ≠ q := fun z => by rw [z, hq] at he; cases he
  have he2 := (va_up_ne' h (some (.inl (dA 5, 22, yQ (fun _ => none)))) hne).trans he
  refine yr_goto 24 C dJ7_copyOf_6403c_10 (by decide) ?_
  refine yr_astore3 25 C dJ7_copyOf_6403c_24 rfl (by decide) rfl ?_
  refine yr_aload_n 26 C dJ7_copyOf_6403c_25 rfl rfl rfl ?_
  refine yr_iconst 27 C (0) dJ7_copyOf_6403c_26 rfl rfl ?_
  refine yr_aload_n 28 C dJ7_copyOf_6403c_27 rfl rfl rfl ?_
  refine yr_iconst 29 C (0) dJ7_copyOf_6403c_28 rfl rfl ?_
  refine yr_aload_n 30 C dJ7_copyOf_6403c_29 rfl rfl rfl ?_
  refine yr_alen 31 5 C (15) dJ7_copyOf_6403c_30 he2 rfl rfl rfl ?_
  refine yr_iload_n 32 C dJ7_copyOf_6403c_31 rfl rfl ?_
  refine yr_S2v 35 C (jc_min _ _ _) dJ7_copyOf_6403c_32 mt_J9_min_7cf53 ms_J9_min_7cf53 ml_J7_304 (Nat.le_of_ble_eq_true rfl) (Nat.le_of_ble_eq_true rfl) (Nat.le_of_ble_eq_true rfl) (Nat.le_of_ble_eq_true rfl) (Nat.le_of_ble_eq_true rfl) rfl (fun h e => ?_)
  subst e
  refine yr_acopy 38 C 0 0 15 dJ7_copyOf_6403c_35 ml_J7_150 he2 (va_up_self' _ _ _) (by decide) (by decide) (by decide) (by decide) (fun i hi y hy => ?_) (Nat.le_of_ble_eq_true rfl) (Nat.le_of_ble_eq_true rfl) rfl ?_
  · obtain ⟨ci, vs, r, g1, g2, g3⟩ := hel _ y hy
    refine ⟨ci, vs, r, ?_, g2, g3 _ _ C.2.2.2.2.2.2.2.2.1⟩
    rw [va_up_ne' h _ (fun z => by rw [z, hq] at g1; cases g1)]
    exact g1
  refine yr_aload_n 39 C dJ7_copyOf_6403c_38 rfl rfl rfl ?_
  refine yr_aret C dJ7_copyOf_6403c_39 hr (Or.inr ⟨_, rfl⟩) rfl (Nat.le_of_ble_eq_true rfl) (Nat.le_of_ble_eq_true rfl) ?_
  exact ⟨q, rfl, hq, by rw [va_up_up]⟩
set_option maxHeartbeats 4000000 in
set_option maxRecDepth 100000 in
theorem jc_copy2_15 (ea : Nat) (f : Nat → Option Nat) (h : yH) (he : h ea = some (.inl (dA 5, 15, yQ f))) (hel : ∀ j y, f j = some y → ∃ (ci : Nat) (vs : List Value) (r : vw_C), h y = some (.inr (ci, vs)) ∧ vwCl[ci]? = some r ∧ ∀ (A : Nat → Prop) (U : State), yZ t0 mi D dA A U → va_Nw (.castable r.1 "java/lang/Object") U) : yM (yZ t0 mi D dA) D yJ7_copyOf_1904c cJ7_copyOf_1904c 2 (some (.array (.object "java/lang/Object"))) 2 1 30 [.ref ea, .int 22] h (fun r h' => ∃ q : Nat, r = some (.ref q) ∧ h q = none ∧ h' = va_up h q (some (.inl (dA 5, 22, yQ (va_cpy f (fun _ => none) 0 0 15))))) := by
  refine yM_of (yZ_ok t0 mi D dA) (by decide) rfl (Nat.le_of_ble_eq_true rfl) ?_
  intro p l e s m args below meth c A C hr hin
  show yW p l e (yR 2 1 30) s m args below meth c 2 D A 0 0 _ 0 [some (.ref ea), some (.int 22)] [] h
  refine yr_aload_n 1 C dJ7_copyOf_1904c_0 rfl rfl rfl ?_
  refine yr_iload_n 2 C dJ7_copyOf_1904c_1 rfl rfl ?_
  refine yr_aload_n 3 C dJ7_copyOf_1904c_2 rfl rfl rfl ?_
  refine yr_getC 6 C dJ7_copyOf_1904c_3 ml_J7_86 he (Nat.le_of_ble_eq_true rfl) (Nat.le_of_ble_eq_true rfl) rfl ?_
  refine yr_S3w 9 C (jc_copy3_15 _ _ _ he hel) dJ7_copyOf_1904c_6 mt_J7_copyOf_6403c ms_J7_copyOf_6403c ml_J7_300 (Nat.le_of_ble_eq_true rfl) (Nat.le_of_ble_eq_true rfl) (Nat.le_of_ble_eq_true rfl) (Nat.le_of_ble_eq_true rfl) (Nat.le_of_ble_eq_true rfl) rfl (fun q h hq => ?_)
  refine yr_aret C dJ7_copyOf_1904c_9 hr (Or.inr ⟨_, rfl⟩) rfl (Nat.le_of_ble_eq_true rfl) (Nat.le_of_ble_eq_true rfl) ?_
  exact ⟨q, rfl, hq⟩
set_option maxHeartbeats 4000000 in
set_option maxRecDepth 100000 in
theorem jc_grow1_15 (la ea : Nat) (mc : Int32) (f : Nat → Option Nat) (h : yH) (ha : h la = some (.inr (0, [.int mc, .ref ea, .int 15]))) (he : h ea = some (.inl (dA 5, 15, yQ f))) (hel : ∀ j y, f j = some y → ∃ (ci : Nat) (vs : List Value) (r : vw_C), h y = some (.inr (ci, vs)) ∧ vwCl[ci]? = some r ∧ ∀ (A : Nat → Prop) (U : State), yZ t0 mi D dA A U → va_Nw (.castable r.1 "java/lang/Object") U) : yM (yZ t0 mi D dA) D yJx4a65c_grow_92f84 cJx4a65c_grow_92f84 4 (some (.array (.object "java/lang/Object"))) 3 1 30 [.ref la, .int 16] h (fun r h' => ∃ q : Nat, r = some (.ref q) ∧ h q = none ∧ h' = va_up (va_up h q (some (.inl (dA 5, 22, yQ (va_cpy f (fun _ => none) 0 0 15))))) la (some (.inr (0, [.int mc, .ref q, .int 15])))) := by
  refine yM_of (yZ_ok t0 mi D dA) (by decide) rfl (Nat.le_of_ble_eq_true rfl) ?_
  intro p l e s m args below meth c A C hr hin
  show yW p l e (yR 3 1 30) s m args below meth c 4 D A 0 0 _ 0 [some (.ref la), some (.int 16), none, none] [] h
  refine yr_aload_n 1 C dJx4a65c_grow_92f84_0 rfl rfl rfl ?_
  refine yr_get 4 C dJx4a65c_grow_92f84_1 fl_Jx4a65c_9 ha rfl rfl ?_
  refine yr_alen 5 5 C (15) dJx4a65c_grow_92f84_4 he rfl rfl rfl ?_
  refine yr_istore2 6 C dJx4a65c_grow_92f84_5 (by decide) rfl ?_
  refine yr_iload_n 7 C dJx4a65c_grow_92f84_6 rfl rfl ?_
  refine yr_if_gt 20 10 C dJx4a65c_grow_92f84_7 (by decide) rfl (fun c7 => ?_) (fun c7 => ?_)
  rotate_left
  · exact absurd (by decide) c7
  refine yr_iload_n 21 C dJx4a65c_grow_92f84_20 rfl rfl ?_
  refine yr_iload_n 22 C dJx4a65c_grow_92f84_21 rfl rfl ?_
  refine yr_iload_n 23 C dJx4a65c_grow_92f84_22 rfl rfl ?_
  refine yr_isub 24 C dJx4a65c_grow_92f84_23 rfl ?_
  refine yr_iload_n 25 C dJx4a65c_grow_92f84_24 rfl rfl ?_
  refine yr_iconst 26 C (1) dJx4a65c_grow_92f84_25 rfl rfl ?_
  refine yr_ishr 27 C dJx4a65c_grow_92f84_26 rfl ?_
  rw [show (16 : Int32) - 15 = 1 from by decide, show (15 : Int32) >>> ((1 : Int32) &&& 31) = 7 from by decide]
  refine yr_S3v 30 C (jc_newLen15 _) dJx4a65c_grow_92f84_27 mt_J8_newLength_cabcc ms_J8_newLength_cabcc ml_Jx4a65c_73 (Nat.le_of_ble_eq_true rfl) (Nat.le_of_ble_eq_true rfl) (Nat.le_of_ble_eq_true rfl) (Nat.le_of_ble_eq_true rfl) (Nat.le_of_ble_eq_true rfl) rfl (fun h e => ?_)
  subst e
  refine yr_istore3 31 C dJx4a65c_grow_92f84_30 (by decide) rfl ?_
  refine yr_aload_n 32 C dJx4a65c_grow_92f84_31 rfl rfl rfl ?_
  refine yr_aload_n 33 C dJx4a65c_grow_92f84_32 rfl rfl rfl ?_
  refine yr_get 36 C dJx4a65c_grow_92f84_33 fl_Jx4a65c_9 ha rfl rfl ?_
  refine yr_iload_n 37 C dJx4a65c_grow_92f84_36 rfl rfl ?_
  refine yr_S2w 40 C (jc_copy2_15 _ _ _ he hel) dJx4a65c_grow_92f84_37 mt_J7_copyOf_1904c ms_J7_copyOf_1904c ml_Jx4a65c_66 (Nat.le_of_ble_eq_true rfl) (Nat.le_of_ble_eq_true rfl) (Nat.le_of_ble_eq_true rfl) (Nat.le_of_ble_eq_true rfl) (Nat.le_of_ble_eq_true rfl) rfl (fun q h hq => ?_)
  refine yr_dup_x1 41 C dJx4a65c_grow_92f84_40 rfl rfl rfl ?_
  skip
  obtain ⟨hqn, rfl⟩ := hq
  have hne : la ≠ q := fun z => by rw [z, hqn] at ha; cases ha
  refine yr_put 44 C dJx4a65c_grow_92f84_41 fp_Jx4a65c_9 ((va_up_ne' h _ hne).trans ha) (Nat.le_of_ble_eq_true rfl) rfl rfl rfl ?_
  refine yr_aret C dJx4a65c_grow_92f84_44 hr (Or.inr ⟨_, rfl⟩) rfl (Nat.le_of_ble_eq_true rfl) (Nat.le_of_ble_eq_true rfl) ?_
  exact ⟨q, rfl, hqn, rfl⟩
set_option maxHeartbeats 4000000 in
set_option maxRecDepth 100000 in
theorem jc_grow0_15 (la ea : Nat) (mc : Int32) (f : Nat → Option Nat) (h : yH) (ha : h la = some (.inr (0, [.int mc, .ref ea, .int 15]))) (he : h ea = some (.inl (dA 5, 15, yQ f))) (hel : ∀ j y, f j = some y → ∃ (ci : Nat) (vs : List Value) (r : vw_C), h y = some (.inr (ci, vs)) ∧ vwCl[ci]? = some r ∧ ∀ (A : Nat → Prop) (U : State), yZ t0 mi D dA A U → va_Nw (.castable r.1 "java/lang/Object") U) : yM (yZ t0 mi D dA) D yJx4a65c_grow_d5877 cJx4a65c_grow_d5877 1 (some (.array (.object "java/lang/Object"))) 4 1 30 [.ref la] h (fun r h' => ∃ q : Nat, r = some (.ref q) ∧ h q = none ∧ h' = va_up (va_up h q (some (.inl (dA 5, 22, yQ (va_cpy f (fun _ => none) 0 0 15))))) la (some (.inr (0, [.int mc, .ref q, .int 15])))) := by
  refine yM_of (yZ_ok t0 mi D dA) (by decide) rfl (Nat.le_of_ble_eq_true rfl) ?_
  intro p l e s m args below meth c A C hr hin
  show yW p l e (yR 4 1 30) s m args below meth c 1 D A 0 0 _ 0 [some (.ref la)] [] h
  refine yr_aload_n 1 C dJx4a65c_grow_d5877_0 rfl rfl rfl ?_
  refine yr_aload_n 2 C dJx4a65c_grow_d5877_1 rfl rfl rfl ?_
  refine yr_get 5 C dJx4a65c_grow_d5877_2 fl_Jx4a65c_48 ha rfl rfl ?_
  refine yr_iconst 6 C (1) dJx4a65c_grow_d5877_5 rfl rfl ?_
  refine yr_iadd 7 C dJx4a65c_grow_d5877_6 rfl ?_
  rw [show (15 : Int32) + 1 = 16 from by decide]
  refine yr_V1w 10 C (jc_grow1_15 _ _ _ _ _ ha he hel) dJx4a65c_grow_d5877_7 mt_Jx4a65c_grow_92f84 mv_Jx4a65c_grow_92f84 ml_Jx4a65c_69 ha rfl (Nat.le_of_ble_eq_true rfl) (Nat.le_of_ble_eq_true rfl) (Nat.le_of_ble_eq_true rfl) (Nat.le_of_ble_eq_true rfl) (Nat.le_of_ble_eq_true rfl) rfl (fun q h hq => ?_)
  refine yr_aret C dJx4a65c_grow_d5877_10 hr (Or.inr ⟨_, rfl⟩) rfl (Nat.le_of_ble_eq_true rfl) (Nat.le_of_ble_eq_true rfl) ?_
  exact ⟨q, rfl, hq⟩
set_option maxHeartbeats 4000000 in
set_option maxRecDepth 100000 in
theorem jc_add3_15 (la ea v ci : Nat) (mc : Int32) (f : Nat → Option Nat) (vs : List Value) (r : vw_C) (h : yH) (ha : h la = some (.inr (0, [.int mc, .ref ea, .int 15]))) (he : h ea = some (.inl (dA 5, 15, yQ f))) (hel : ∀ j y, f j = some y → ∃ (ci : Nat) (vs : List Value) (r : vw_C), h y = some (.inr (ci, vs)) ∧ vwCl[ci]? = some r ∧ ∀ (A : Nat → Prop) (U : State), yZ t0 mi D dA A U → va_Nw (.castable r.1 "java/lang/Object") U) (hv : h v = some (.inr (ci, vs))) (hci : vwCl[ci]? = some r) (hca : ∀ (A : Nat → Prop) (U : State), yZ t0 mi D dA A U → va_Nw (.castable r.1 "java/lang/Object") U) (hvl : v ≠ la) : yM (yZ t0 mi D dA) D yJx4a65c_add_72be8 cJx4a65c_add_72be8 4 none 5 1 30 [.ref la, .ref v, .ref ea, .int 15] h (fun r h' => r = none ∧ ∃ q : Nat, h q = none ∧ h' = va_up (va_up h q (some (.inl (dA 5, 22, yQ (va_up (va_cpy f (fun _ => none) 0 0 15) 15 (some v)))))) la (some (.inr (0, [.int mc, .ref q, .int 16])))) := by
  refine yM_of (yZ_ok t0 mi D dA) (by decide) rfl (Nat.le_of_ble_eq_true rfl) ?_
  intro p l e s m args below meth c A C hr hin
  show yW p l e (yR 5 1 30) s m args below meth c 4 D A 0 0 _ 0 [some (.ref la), some (.ref v), some (.ref ea), some (.int 15)] [] h
  refine yr_iload_n 1 C dJx4a65c_add_72be8_0 rfl rfl ?_
  refine yr_aload_n 2 C dJx4a65c_add_72be8_1 rfl rfl rfl ?_
  refine yr_alen 3 5 C (15) dJx4a65c_add_72be8_2 he rfl rfl rfl ?_
  refine yr_icmp_ne 11 6 C dJx4a65c_add_72be8_3 (by decide) rfl (fun c3 => ?_) (fun c3 => ?_)
  · exact absurd c3 (fun z => z rfl)
  refine yr_aload_n 7 C dJx4a65c_add_72be8_6 rfl rfl rfl ?_
  refine yr_V0w 10 C (jc_grow0_15 _ _ _ _ _ ha he hel) dJx4a65c_add_72be8_7 mt_Jx4a65c_grow_d5877 mv_Jx4a65c_grow_d5877 ml_Jx4a65c_129 ha rfl (Nat.le_of_ble_eq_true rfl) (Nat.le_of_ble_eq_true rfl) (Nat.le_of_ble_eq_true rfl) (Nat.le_of_ble_eq_true rfl) (Nat.le_of_ble_eq_true rfl) rfl (fun q h hq => ?_)
  obtain ⟨hqn, rfl⟩ := hq
  refine yr_astore2 11 C dJx4a65c_add_72be8_10 rfl (by decide) rfl ?_
  refine yr_aload_n 12 C dJx4a65c_add_72be8_11 rfl rfl rfl ?_
  refine yr_iload_n 13 C dJx4a65c_add_72be8_12 rfl rfl ?_
  refine yr_aload_n 14 C dJx4a65c_add_72be8_13 rfl rfl rfl ?_
  have hla : la ≠ q := fun z => by rw [z, hqn] at ha; cases ha
  have hv0 : v ≠ q := fun z => by rw [z, hqn] at hv; cases hv
  obtain ⟨ci2, vs2, r2, hv2, hci2, hca2⟩ : ∃ (ci2 : Nat) (vs2 : List Value) (r2 : vw_C), va_up (va_up h q (some (.inl (dA 5, 22, yQ (va_cpy f (fun _ => none) 0 0 15))))) la (some (.inr (0, [.int mc, .ref q, .int 15]))) v = some (.inr (ci2, vs2)) ∧ vwCl[ci2]? = some r2 ∧ va_Nw (.castable r2.1 "java/lang/Object") s := by
    refine ⟨ci, vs, r, ?_, hci, hca _ _ C.2.2.2.2.2.2.2.2.1⟩
    rw [va_up_ne' _ _ hvl, va_up_ne' _ _ hv0]
    exact hv
  refine yr_aastO (i := 15) 15 5 C dJx4a65c_add_72be8_14 rfl ((va_up_ne' _ _ (Ne.symm hla)).trans (va_up_self' _ _ _)) hv2 hci2 (Or.inl hca2) (by decide) (by decide) rfl ?_
  refine yr_aload_n 16 C dJx4a65c_add_72be8_15 rfl rfl rfl ?_
  refine yr_iload_n 17 C dJx4a65c_add_72be8_16 rfl rfl ?_
  refine yr_iconst 18 C (1) dJx4a65c_add_72be8_17 rfl rfl ?_
  refine yr_iadd 19 C dJx4a65c_add_72be8_18 rfl ?_
  rw [show (15 : Int32) + 1 = 16 from by decide]
  refine yr_put 22 C dJx4a65c_add_72be8_19 fp_Jx4a65c_48 ((va_up_ne' _ _ hla).trans (va_up_self' _ _ _)) (Nat.le_of_ble_eq_true rfl) rfl rfl rfl ?_
  refine yr_vret C dJx4a65c_add_72be8_22 hr (Nat.le_of_ble_eq_true rfl) (Nat.le_of_ble_eq_true rfl) ?_
  refine ⟨rfl, q, hqn, ?_⟩
  funext j
  by_cases h1 : j = la
  · subst h1
    simp [va_up, hla]
  · by_cases h2 : j = q
    · subst h2
      simp [va_up, h1]
    · simp [va_up, h1, h2]
end JDK2
