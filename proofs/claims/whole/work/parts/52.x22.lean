/-! constructors: the object at a, its cells L; E: what has been made beside it -/
def IW (h0 : yH) (a ci : Nat) (L : List Value) (E : List (Nat × va_E)) (h : yH) : Prop := (∀ x e, x ≠ a → h0 x = some e → h x = some e) ∧ h a = some (.inr (ci, L)) ∧ (∀ x ∈ E, x.1 ≠ a ∧ h0 x.1 = none ∧ h x.1 = some x.2) ∧ E.Pairwise (fun x y => x.1 ≠ y.1)
theorem IW_0 {h0 : yH} {a ci : Nat} {L : List Value} (ha : h0 a = some (.inr (ci, L))) : IW h0 a ci L [] h0 := ⟨fun _ _ _ e => e, ha, (fun x hx => by cases hx), List.Pairwise.nil⟩
theorem IW_put {h0 h : yH} {a ci : Nat} {L : List Value} {E : List (Nat × va_E)} (hI : IW h0 a ci L E h) {k : Nat} {v : Value} : IW h0 a ci (L.set k v) E (va_up h a (some (.inr (ci, L.set k v)))) := by
  obtain ⟨a1, a2, a3, a4⟩ := hI
  refine ⟨fun x e ne q => ?_, va_up_self' _ _ _, fun x hx => ?_, a4⟩
  · rw [va_up_ne' _ _ ne]
    exact a1 x e ne q
  · obtain ⟨b1, b2, b3⟩ := a3 x hx
    exact ⟨b1, b2, by rw [va_up_ne' _ _ b1]; exact b3⟩
theorem IW_new {h0 h : yH} {a ci q : Nat} {L : List Value} {E : List (Nat × va_E)} {e : va_E} (hI : IW h0 a ci L E h) (hq : h q = none) : IW h0 a ci L ((q, e) :: E) (va_up h q (some e)) := by
  obtain ⟨a1, a2, a3, a4⟩ := hI
  have qa : q ≠ a := fun z => by rw [z, a2] at hq; cases hq
  have qE : ∀ x ∈ E, x.1 ≠ q := fun x hx z => by
    have := (a3 x hx).2.2
    rw [z, hq] at this
    cases this
  refine ⟨fun x e2 ne y => ?_, by rw [va_up_ne' _ _ (Ne.symm qa)]; exact a2, fun x hx => ?_, List.Pairwise.cons (fun x hx => Ne.symm (qE x hx)) a4⟩
  · have z : x ≠ q := fun z => by
      have := a1 x e2 ne y
      rw [z, hq] at this
      cases this
    rw [va_up_ne' _ _ z]
    exact a1 x e2 ne y
  · rcases List.mem_cons.mp hx with rfl | hx
    · refine ⟨qa, ?_, va_up_self' _ _ _⟩
      cases y : h0 q with
      | none => rfl
      | some u =>
        have := a1 q u qa y
        rw [hq] at this
        cases this
    · obtain ⟨b1, b2, b3⟩ := a3 x hx
      exact ⟨b1, b2, by rw [va_up_ne' _ _ (qE x hx)]; exact b3⟩
theorem IW_set2 {h0 h : yH} {a ci q : Nat} {L : List Value} {x : Nat × va_E} {e e' : va_E} (hI : IW h0 a ci L [x, (q, e)] h) : IW h0 a ci L [x, (q, e')] (va_up h q (some e')) := by
  obtain ⟨a1, a2, a3, a4⟩ := hI
  obtain ⟨b1, b2, b3⟩ := a3 (q, e) (by simp)
  obtain ⟨c1, c2, c3⟩ := a3 x (by simp)
  have xq : x.1 ≠ q := by
    have := List.pairwise_cons.mp a4
    exact this.1 (q, e) (by simp)
  refine ⟨fun y e2 ne z => ?_, by rw [va_up_ne' _ _ (Ne.symm b1)]; exact a2, fun y hy => ?_, ?_⟩
  · by_cases yq : y = q
    · rw [yq, b2] at z
      cases z
    · rw [va_up_ne' _ _ yq]
      exact a1 y e2 ne z
  · rcases List.mem_cons.mp hy with rfl | hy
    · exact ⟨c1, c2, by rw [va_up_ne' _ _ xq]; exact c3⟩
    · rcases List.mem_cons.mp hy with rfl | hy
      · exact ⟨b1, b2, va_up_self' _ _ _⟩
      · cases hy
  · exact List.Pairwise.cons (fun y hy => by
      rcases List.mem_cons.mp hy with rfl | hy
      · exact xq
      · cases hy) (List.Pairwise.cons (fun y hy => by cases hy) List.Pairwise.nil)
theorem IW_e2 {h0 h : yH} {a ci q : Nat} {L : List Value} {x : Nat × va_E} {e : va_E} (hI : IW h0 a ci L [x, (q, e)] h) : h q = some e := (hI.2.2.1 (q, e) (by simp)).2.2
theorem IW_sub {h0 h1 h : yH} {a ci : Nat} {L : List Value} {E : List (Nat × va_E)} (hI : IW h1 a ci L E h) (hs : ∀ x e, h0 x = some e → h1 x = some e) (ha : h0 a = none) : ∀ x e, h0 x = some e → h x = some e := fun x e q => hI.1 x e (fun z => by rw [z, ha] at q; cases q) (hs x e q)
theorem sub_none {h0 h1 : yH} (hs : ∀ x e, h0 x = some e → h1 x = some e) {x : Nat} (h : h1 x = none) : h0 x = none := by
  cases y : h0 x with
  | none => rfl
  | some u =>
    rw [hs x u y] at h
    cases h
theorem sub_up {h : yH} {q : Nat} {e : Option va_E} (hq : h q = none) : ∀ x u, h x = some u → va_up h q e x = some u := fun x u y => by
  rw [va_up_ne' _ _ (fun z => by rw [z, hq] at y; cases y)]
  exact y
theorem RX_sub {h' : yH} {dA : Nat → ClassId} {t0 : Nat} {S : yS} {lf mc : Nat → Int32} {cap : Nat → Nat} {B : Nat → Nat → Nat} {N : Nat → Nat} {h : yH} (hR : RX dA t0 S lf mc cap B N h) (hs : ∀ x e, h x = some e → h' x = some e) : RX dA t0 S lf mc cap B N h' := ⟨fun k i v => hs _ _ (hR.1 k i v), hR.2.1, hR.2.2⟩
theorem RX_far {S' : yS} {dA : Nat → ClassId} {t0 : Nat} {S : yS} {lf mc : Nat → Int32} {cap : Nat → Nat} {B : Nat → Nat → Nat} {N : Nat → Nat} {h : yH} (hR : RX dA t0 S lf mc cap B N h) (hV : ∀ k i, xV S' cap N k i → xV S cap N k i) (hC : ∀ k i, xV S' cap N k i → xC dA S' lf mc cap B N k i = xC dA S lf mc cap B N k i) : RX dA t0 S' lf mc cap B N h := RX_upd hR hV (fun k i v' v => by rw [hC k i v']; exact hR.1 k i v)
theorem RF_of {S : yS} {N : Nat → Nat} {t : Nat} (hI : mI S (N 0) (N 1) (N 2) (N 3) (N 4) t) : RF S N := ⟨⟨hI 12, hI 13⟩, hI 7, hI 9, hI 10, hI 11, i5 (by have := (hI 0).2; omega) (by have := (hI 1).2; omega) (by have := (hI 2).2; omega) (by have := (hI 3).2; omega) (by have := (hI 4).2; omega)⟩
section Rows22
variable {Z : (Nat → Prop) → State → Prop} {D : va_G} {dA : Nat → ClassId} {p : Program} {l : Launch} {e : Env} {R : Room} {s : State} {m : MethodId} {args : Array Value} {below : List Frame} {meth : Method} {c : Code} {cc : ByteArray} {nL : Nat} {own : String} {A : Nat → Prop} {cells slots : Nat} {Q : State → Prop} {pc : Nat} {lv : List (Option Value)} {st : List Value} {h : yH}
variable {P : yH → Prop}
theorem xx_putF (pc2 : Nat) (C : yC Z D dA p s m args meth c cc nL own A) (hin : meth.name = "<init>") {idx ci k a : Nat} {fs : List Value} {v : Value} {ty : FieldType} (d : decode cc pc = .ok (.putfield idx, 3)) (hl : yFp own idx ci k ty true) (ha : h a = some (.inr (ci, fs))) (hlen : k < fs.length) (hn : narrow ty v = v) (hf : fits ty v = true) (hP : P (va_up h a (some (.inr (ci, fs.set k v))))) (hp : pc + 3 = pc2) (kk : ∀ h : yH, P h → yW p l e R s m args below meth c nL D A cells slots Q pc2 lv (st) (h)) : yW p l e R s m args below meth c nL D A cells slots Q pc lv (v :: .ref a :: st) (h) := yr_putF pc2 C hin d hl ha hlen hn hf hp (kk _ hP)
end Rows22
section X22
variable {D : va_G} {dA : Nat → ClassId} {t0 mi : Nat} {S : yS} {lf mc : Nat → Int32} {cap : Nat → Nat} {B : Nat → Nat → Nat} {N : Nat → Nat}
variable {t : Nat}
set_option maxHeartbeats 4000000 in
set_option maxRecDepth 100000 in
theorem xi_order (a : Nat) (r0 : Nat) (x y z u : Int32) (h0 : yH) (ha : h0 a = some (.inr (5, [.null, .int 0, .int 0, .int 0, .int 0]))) : yM (yZ t0 mi D dA) D yX4_init cX4_init 6 none 1 0 0 [.ref a, .ref r0, .int x, .int y, .int z, .int u] h0 (fun r h' => r = none ∧ IW h0 a 5 [.ref r0, .int x, .int y, .int z, .int u] [] h') := by
  suffices H : ∀ h : yH, IW h0 a 5 [.null, .int 0, .int 0, .int 0, .int 0] [] h → yM (yZ t0 mi D dA) D yX4_init cX4_init 6 none 1 0 0 [.ref a, .ref r0, .int x, .int y, .int z, .int u] h (fun r h' => r = none ∧ IW h0 a 5 [.ref r0, .int x, .int y, .int z, .int u] [] h') from H h0 (IW_0 ha)
  intro h hI
  refine yM_of (yZ_ok t0 mi D dA) (by decide) rfl (Nat.le_of_ble_eq_true rfl) ?_
  intro p l e s m args below meth c A C hr hin
  show yW p l e (yR 1 0 0) s m args below meth c 6 D A 0 0 _ 0 [some (.ref a), some (.ref r0), some (.int x), some (.int y), some (.int z), some (.int u)] [] h
  refine yr_aload_n 1 C dX4_init_0 rfl rfl rfl ?_
  refine yr_objInit 4 C dX4_init_1 ml_X4_1 oi_i oi_c (Nat.le_of_ble_eq_true rfl) (Nat.le_of_ble_eq_true rfl) rfl ?_
  refine yr_aload_n 5 C dX4_init_4 rfl rfl rfl ?_
  refine yr_aload_n 6 C dX4_init_5 rfl rfl rfl ?_
  refine xx_putF 9 C hin dX4_init_6 fp_X4_7 hI.2.1 (Nat.le_of_ble_eq_true rfl) rfl rfl (IW_put hI) rfl (fun h hI => ?_)
  replace hI : IW h0 a 5 [.ref r0, .int 0, .int 0, .int 0, .int 0] _ h := hI
  refine yr_aload_n 10 C dX4_init_9 rfl rfl rfl ?_
  refine yr_iload_n 11 C dX4_init_10 rfl rfl ?_
  refine xx_putF 14 C hin dX4_init_11 fp_X4_13 hI.2.1 (Nat.le_of_ble_eq_true rfl) rfl rfl (IW_put hI) rfl (fun h hI => ?_)
  replace hI : IW h0 a 5 [.ref r0, .int x, .int 0, .int 0, .int 0] _ h := hI
  refine yr_aload_n 15 C dX4_init_14 rfl rfl rfl ?_
  refine yr_iload_n 16 C dX4_init_15 rfl rfl ?_
  refine xx_putF 19 C hin dX4_init_16 fp_X4_17 hI.2.1 (Nat.le_of_ble_eq_true rfl) rfl rfl (IW_put hI) rfl (fun h hI => ?_)
  replace hI : IW h0 a 5 [.ref r0, .int x, .int y, .int 0, .int 0] _ h := hI
  refine yr_aload_n 20 C dX4_init_19 rfl rfl rfl ?_
  refine yr_iload 22 C dX4_init_20 rfl rfl ?_
  refine xx_putF 25 C hin dX4_init_22 fp_X4_20 hI.2.1 (Nat.le_of_ble_eq_true rfl) rfl rfl (IW_put hI) rfl (fun h hI => ?_)
  replace hI : IW h0 a 5 [.ref r0, .int x, .int y, .int z, .int 0] _ h := hI
  refine yr_aload_n 26 C dX4_init_25 rfl rfl rfl ?_
  refine yr_iload 28 C dX4_init_26 rfl rfl ?_
  refine xx_putF 31 C hin dX4_init_28 fp_X4_23 hI.2.1 (Nat.le_of_ble_eq_true rfl) rfl rfl (IW_put hI) rfl (fun h hI => ?_)
  replace hI : IW h0 a 5 [.ref r0, .int x, .int y, .int z, .int u] _ h := hI
  refine yr_vret C dX4_init_31 hr (Nat.le_of_ble_eq_true rfl) (Nat.le_of_ble_eq_true rfl) ?_
  exact ⟨rfl, hI⟩
set_option maxHeartbeats 4000000 in
set_option maxRecDepth 100000 in
theorem xi_pair (a : Nat) (r1 r2 : Nat) (x : Int32) (h0 : yH) (ha : h0 a = some (.inr (6, [.null, .null, .int 0, .int 0]))) : yM (yZ t0 mi D dA) D yX5_init cX5_init 4 none 1 0 0 [.ref a, .ref r1, .ref r2, .int x] h0 (fun r h' => r = none ∧ IW h0 a 6 [.ref r1, .ref r2, .int x, .int 0] [] h') := by
  suffices H : ∀ h : yH, IW h0 a 6 [.null, .null, .int 0, .int 0] [] h → yM (yZ t0 mi D dA) D yX5_init cX5_init 4 none 1 0 0 [.ref a, .ref r1, .ref r2, .int x] h (fun r h' => r = none ∧ IW h0 a 6 [.ref r1, .ref r2, .int x, .int 0] [] h') from H h0 (IW_0 ha)
  intro h hI
  refine yM_of (yZ_ok t0 mi D dA) (by decide) rfl (Nat.le_of_ble_eq_true rfl) ?_
  intro p l e s m args below meth c A C hr hin
  show yW p l e (yR 1 0 0) s m args below meth c 4 D A 0 0 _ 0 [some (.ref a), some (.ref r1), some (.ref r2), some (.int x)] [] h
  refine yr_aload_n 1 C dX5_init_0 rfl rfl rfl ?_
  refine yr_objInit 4 C dX5_init_1 ml_X5_1 oi_i oi_c (Nat.le_of_ble_eq_true rfl) (Nat.le_of_ble_eq_true rfl) rfl ?_
  refine yr_aload_n 5 C dX5_init_4 rfl rfl rfl ?_
  refine yr_iconst 6 C (0) dX5_init_5 rfl rfl ?_
  refine xx_put 9 C dX5_init_6 fp_X5_7 hI.2.1 (Nat.le_of_ble_eq_true rfl) rfl rfl (IW_put hI) rfl (fun h hI => ?_)
  replace hI : IW h0 a 6 [.null, .null, .int 0, .int (0)] _ h := hI
  refine yr_aload_n 10 C dX5_init_9 rfl rfl rfl ?_
  refine yr_aload_n 11 C dX5_init_10 rfl rfl rfl ?_
  refine xx_putF 14 C hin dX5_init_11 fp_X5_13 hI.2.1 (Nat.le_of_ble_eq_true rfl) rfl rfl (IW_put hI) rfl (fun h hI => ?_)
  replace hI : IW h0 a 6 [.ref r1, .null, .int 0, .int (0)] _ h := hI
  refine yr_aload_n 15 C dX5_init_14 rfl rfl rfl ?_
  refine yr_aload_n 16 C dX5_init_15 rfl rfl rfl ?_
  refine xx_putF 19 C hin dX5_init_16 fp_X5_17 hI.2.1 (Nat.le_of_ble_eq_true rfl) rfl rfl (IW_put hI) rfl (fun h hI => ?_)
  replace hI : IW h0 a 6 [.ref r1, .ref r2, .int 0, .int (0)] _ h := hI
  refine yr_aload_n 20 C dX5_init_19 rfl rfl rfl ?_
  refine yr_iload_n 21 C dX5_init_20 rfl rfl ?_
  refine xx_putF 24 C hin dX5_init_21 fp_X5_20 hI.2.1 (Nat.le_of_ble_eq_true rfl) rfl rfl (IW_put hI) rfl (fun h hI => ?_)
  replace hI : IW h0 a 6 [.ref r1, .ref r2, .int x, .int (0)] _ h := hI
  refine yr_vret C dX5_init_24 hr (Nat.le_of_ble_eq_true rfl) (Nat.le_of_ble_eq_true rfl) ?_
  exact ⟨rfl, hI⟩
set_option maxHeartbeats 4000000 in
set_option maxRecDepth 100000 in
theorem xi_det (a : Nat) (x : Int32) (h0 : yH) (ha : h0 a = some (.inr (2, [.int 0, .null, .null, .int 0]))) : yM (yZ t0 mi D dA) D yX1_init cX1_init 2 none 1 2 400 [.ref a, .int x] h0 (fun r h' => r = none ∧ ∃ q9 q10, IW h0 a 2 [.int x, .ref q9, .ref q10, .int 0] [(q10, .inl (dA 2, 200, .inl (fun _ => 0))), (q9, .inl (dA 1, 200, .inl (fun _ => 0)))] h') := by
  suffices H : ∀ h : yH, IW h0 a 2 [.int 0, .null, .null, .int 0] [] h → yM (yZ t0 mi D dA) D yX1_init cX1_init 2 none 1 2 400 [.ref a, .int x] h (fun r h' => r = none ∧ ∃ q9 q10, IW h0 a 2 [.int x, .ref q9, .ref q10, .int 0] [(q10, .inl (dA 2, 200, .inl (fun _ => 0))), (q9, .inl (dA 1, 200, .inl (fun _ => 0)))] h') from H h0 (IW_0 ha)
  intro h hI
  refine yM_of (yZ_ok t0 mi D dA) (by decide) rfl (Nat.le_of_ble_eq_true rfl) ?_
  intro p l e s m args below meth c A C hr hin
  show yW p l e (yR 1 2 400) s m args below meth c 2 D A 0 0 _ 0 [some (.ref a), some (.int x)] [] h
  refine yr_aload_n 1 C dX1_init_0 rfl rfl rfl ?_
  refine yr_objInit 4 C dX1_init_1 ml_X1_3 oi_i oi_c (Nat.le_of_ble_eq_true rfl) (Nat.le_of_ble_eq_true rfl) rfl ?_
  refine yr_aload_n 5 C dX1_init_4 rfl rfl rfl ?_
  refine yr_sipush 8 C (200) dX1_init_5 rfl rfl ?_
  refine yr_newaB 10 C 200 dX1_init_8 ac_byte (by decide) (by decide) (by decide) (Nat.le_of_ble_eq_true rfl) (Nat.le_of_ble_eq_true rfl) rfl (fun q9 hq9 => ?_)
  have hI := IW_new (e := .inl (dA 1, 200, .inl (fun _ => 0))) hI hq9
  generalize va_up h q9 (some (.inl (dA 1, 200, .inl (fun _ => 0)))) = h at hI ⊢
  refine xx_put 13 C dX1_init_10 fp_X1_9 hI.2.1 (Nat.le_of_ble_eq_true rfl) rfl rfl (IW_put hI) rfl (fun h hI => ?_)
  replace hI : IW h0 a 2 [.int 0, .ref q9, .null, .int 0] _ h := hI
  refine yr_aload_n 14 C dX1_init_13 rfl rfl rfl ?_
  refine yr_sipush 17 C (200) dX1_init_14 rfl rfl ?_
  refine yr_newaS 19 C 200 dX1_init_17 ac_short (by decide) (by decide) (by decide) (Nat.le_of_ble_eq_true rfl) (Nat.le_of_ble_eq_true rfl) rfl (fun q10 hq10 => ?_)
  have hI := IW_new (e := .inl (dA 2, 200, .inl (fun _ => 0))) hI hq10
  generalize va_up h q10 (some (.inl (dA 2, 200, .inl (fun _ => 0)))) = h at hI ⊢
  refine xx_put 22 C dX1_init_19 fp_X1_15 hI.2.1 (Nat.le_of_ble_eq_true rfl) rfl rfl (IW_put hI) rfl (fun h hI => ?_)
  replace hI : IW h0 a 2 [.int 0, .ref q9, .ref q10, .int 0] _ h := hI
  refine yr_aload_n 23 C dX1_init_22 rfl rfl rfl ?_
  refine yr_iconst 24 C (0) dX1_init_23 rfl rfl ?_
  refine xx_put 27 C dX1_init_24 fp_X1_19 hI.2.1 (Nat.le_of_ble_eq_true rfl) rfl rfl (IW_put hI) rfl (fun h hI => ?_)
  replace hI : IW h0 a 2 [.int 0, .ref q9, .ref q10, .int (0)] _ h := hI
  refine yr_aload_n 28 C dX1_init_27 rfl rfl rfl ?_
  refine yr_iload_n 29 C dX1_init_28 rfl rfl ?_
  refine xx_putF 32 C hin dX1_init_29 fp_X1_23 hI.2.1 (Nat.le_of_ble_eq_true rfl) rfl rfl (IW_put hI) rfl (fun h hI => ?_)
  replace hI : IW h0 a 2 [.int x, .ref q9, .ref q10, .int (0)] _ h := hI
  refine yr_vret C dX1_init_32 hr (Nat.le_of_ble_eq_true rfl) (Nat.le_of_ble_eq_true rfl) ?_
  exact ⟨rfl, q9, q10, hI⟩
set_option maxHeartbeats 4000000 in
set_option maxRecDepth 100000 in
theorem xi_stage (a : Nat) (x : Int32) (h0 : yH) (ha : h0 a = some (.inr (8, [.int 0, .null]))) : yM (yZ t0 mi D dA) D yX7_init cX7_init 2 none 1 1 4 [.ref a, .int x] h0 (fun r h' => r = none ∧ ∃ q7, IW h0 a 8 [.int x, .ref q7] [(q7, .inl (dA 4, 4, yQ (fun _ => none)))] h') := by
  suffices H : ∀ h : yH, IW h0 a 8 [.int 0, .null] [] h → yM (yZ t0 mi D dA) D yX7_init cX7_init 2 none 1 1 4 [.ref a, .int x] h (fun r h' => r = none ∧ ∃ q7, IW h0 a 8 [.int x, .ref q7] [(q7, .inl (dA 4, 4, yQ (fun _ => none)))] h') from H h0 (IW_0 ha)
  intro h hI
  refine yM_of (yZ_ok t0 mi D dA) (by decide) rfl (Nat.le_of_ble_eq_true rfl) ?_
  intro p l e s m args below meth c A C hr hin
  show yW p l e (yR 1 1 4) s m args below meth c 2 D A 0 0 _ 0 [some (.ref a), some (.int x)] [] h
  refine yr_aload_n 1 C dX7_init_0 rfl rfl rfl ?_
  refine yr_objInit 4 C dX7_init_1 ml_X7_3 oi_i oi_c (Nat.le_of_ble_eq_true rfl) (Nat.le_of_ble_eq_true rfl) rfl ?_
  refine yr_aload_n 5 C dX7_init_4 rfl rfl rfl ?_
  refine yr_iconst 6 C (4) dX7_init_5 rfl rfl ?_
  refine yr_newq (N := 4) 9 4 C dX7_init_6 rfl cl_X7_9 (yz_x C).1.1 (by decide) (Nat.le_of_ble_eq_true rfl) (Nat.le_of_ble_eq_true rfl) rfl (fun q7 hq7 => ?_)
  have hI := IW_new (e := .inl (dA 4, 4, yQ (fun _ => none))) hI hq7
  generalize va_up h q7 _ = h at hI ⊢
  refine xx_putF 12 C hin dX7_init_9 fp_X7_11 hI.2.1 (Nat.le_of_ble_eq_true rfl) rfl rfl (IW_put hI) rfl (fun h hI => ?_)
  replace hI : IW h0 a 8 [.int 0, .ref q7] _ h := hI
  refine yr_aload_n 13 C dX7_init_12 rfl rfl rfl ?_
  refine yr_iload_n 14 C dX7_init_13 rfl rfl ?_
  refine xx_putF 17 C hin dX7_init_14 fp_X7_17 hI.2.1 (Nat.le_of_ble_eq_true rfl) rfl rfl (IW_put hI) rfl (fun h hI => ?_)
  replace hI : IW h0 a 8 [.int x, .ref q7] _ h := hI
  refine yr_vret C dX7_init_17 hr (Nat.le_of_ble_eq_true rfl) (Nat.le_of_ble_eq_true rfl) ?_
  exact ⟨rfl, q7, hI⟩
set_option maxHeartbeats 4000000 in
set_option maxRecDepth 100000 in
theorem xi_phase (a : Nat) (x y : Int32) (h0 : yH) (ha : h0 a = some (.inr (7, [.int 0, .int 0, .null, .null, .null, .int 0, .int 0, .int 0, .int 0, .int 0, .int 0, .int 0, .int 0, .int 0, .int 0, .int 0, .int 0, .int 0]))) : yM (yZ t0 mi D dA) D yX6_init cX6_init 4 none 1 2 69 [.ref a, .int x, .int y] h0 (fun r h' => r = none ∧ ∃ q4 q5, IW h0 a 7 [.int x, .int y, .ref q4, .ref q5, .null, .int 0, .int 0, .int 0, .int (-5), .int (-5), .int 0, .int 5, .int 20, .int 3, .int 0, .int 0, .int 0, .int 0] [(q5, .inl (dA 0, 61, .inl (fun _ => 0))), (q4, .inl (dA 0, 8, .inl (fun q => if q < 8 then -5 else 0)))] h') := by
  suffices H : ∀ h : yH, IW h0 a 7 [.int 0, .int 0, .null, .null, .null, .int 0, .int 0, .int 0, .int 0, .int 0, .int 0, .int 0, .int 0, .int 0, .int 0, .int 0, .int 0, .int 0] [] h → yM (yZ t0 mi D dA) D yX6_init cX6_init 4 none 1 2 69 [.ref a, .int x, .int y] h (fun r h' => r = none ∧ ∃ q4 q5, IW h0 a 7 [.int x, .int y, .ref q4, .ref q5, .null, .int 0, .int 0, .int 0, .int (-5), .int (-5), .int 0, .int 5, .int 20, .int 3, .int 0, .int 0, .int 0, .int 0] [(q5, .inl (dA 0, 61, .inl (fun _ => 0))), (q4, .inl (dA 0, 8, .inl (fun q => if q < 8 then -5 else 0)))] h') from H h0 (IW_0 ha)
  intro h hI
  refine yM_of (yZ_ok t0 mi D dA) (by decide) rfl (Nat.le_of_ble_eq_true rfl) ?_
  intro p l e s m args below meth c A C hr hin
  show yW p l e (yR 1 2 69) s m args below meth c 4 D A 0 0 _ 0 [some (.ref a), some (.int x), some (.int y), none] [] h
  refine yr_aload_n 1 C dX6_init_0 rfl rfl rfl ?_
  refine yr_objInit 4 C dX6_init_1 ml_X6_3 oi_i oi_c (Nat.le_of_ble_eq_true rfl) (Nat.le_of_ble_eq_true rfl) rfl ?_
  refine yr_aload_n 5 C dX6_init_4 rfl rfl rfl ?_
  refine yr_bipush 7 C (8) dX6_init_5 rfl rfl ?_
  refine yr_newaI 9 C 8 dX6_init_7 ac_int (by decide) (by decide) (by decide) (Nat.le_of_ble_eq_true rfl) (Nat.le_of_ble_eq_true rfl) rfl (fun q4 hq4 => ?_)
  have hI := IW_new (e := .inl (dA 0, 8, .inl (fun _ => 0))) hI hq4
  generalize va_up h q4 (some (.inl (dA 0, 8, .inl (fun _ => 0)))) = h at hI ⊢
  refine xx_putF 12 C hin dX6_init_9 fp_X6_9 hI.2.1 (Nat.le_of_ble_eq_true rfl) rfl rfl (IW_put hI) rfl (fun h hI => ?_)
  replace hI : IW h0 a 7 [.int 0, .int 0, .ref q4, .null, .null, .int 0, .int 0, .int 0, .int 0, .int 0, .int 0, .int 0, .int 0, .int 0, .int 0, .int 0, .int 0, .int 0] _ h := hI
  refine yr_aload_n 13 C dX6_init_12 rfl rfl rfl ?_
  refine yr_bipush 15 C (61) dX6_init_13 rfl rfl ?_
  refine yr_newaI 17 C 61 dX6_init_15 ac_int (by decide) (by decide) (by decide) (Nat.le_of_ble_eq_true rfl) (Nat.le_of_ble_eq_true rfl) rfl (fun q5 hq5 => ?_)
  have hI := IW_new (e := .inl (dA 0, 61, .inl (fun _ => 0))) hI hq5
  generalize va_up h q5 (some (.inl (dA 0, 61, .inl (fun _ => 0)))) = h at hI ⊢
  refine xx_putF 20 C hin dX6_init_17 fp_X6_15 hI.2.1 (Nat.le_of_ble_eq_true rfl) rfl rfl (IW_put hI) rfl (fun h hI => ?_)
  replace hI : IW h0 a 7 [.int 0, .int 0, .ref q4, .ref q5, .null, .int 0, .int 0, .int 0, .int 0, .int 0, .int 0, .int 0, .int 0, .int 0, .int 0, .int 0, .int 0, .int 0] _ h := hI
  refine yr_aload_n 21 C dX6_init_20 rfl rfl rfl ?_
  refine yr_null 22 C dX6_init_21 rfl ?_
  refine xx_put 25 C dX6_init_22 fp_X6_18 hI.2.1 (Nat.le_of_ble_eq_true rfl) rfl rfl (IW_put hI) rfl (fun h hI => ?_)
  replace hI : IW h0 a 7 [.int 0, .int 0, .ref q4, .ref q5, .null, .int 0, .int 0, .int 0, .int 0, .int 0, .int 0, .int 0, .int 0, .int 0, .int 0, .int 0, .int 0, .int 0] _ h := hI
  refine yr_aload_n 26 C dX6_init_25 rfl rfl rfl ?_
  refine yr_iconst 27 C (0) dX6_init_26 rfl rfl ?_
  refine xx_put 30 C dX6_init_27 fp_X6_22 hI.2.1 (Nat.le_of_ble_eq_true rfl) rfl rfl (IW_put hI) rfl (fun h hI => ?_)
  replace hI : IW h0 a 7 [.int 0, .int 0, .ref q4, .ref q5, .null, .int (0), .int 0, .int 0, .int 0, .int 0, .int 0, .int 0, .int 0, .int 0, .int 0, .int 0, .int 0, .int 0] _ h := hI
  refine yr_aload_n 31 C dX6_init_30 rfl rfl rfl ?_
  refine yr_iconst 32 C (0) dX6_init_31 rfl rfl ?_
  refine xx_put 35 C dX6_init_32 fp_X6_26 hI.2.1 (Nat.le_of_ble_eq_true rfl) rfl rfl (IW_put hI) rfl (fun h hI => ?_)
  replace hI : IW h0 a 7 [.int 0, .int 0, .ref q4, .ref q5, .null, .int (0), .int (0), .int 0, .int 0, .int 0, .int 0, .int 0, .int 0, .int 0, .int 0, .int 0, .int 0, .int 0] _ h := hI
  refine yr_aload_n 36 C dX6_init_35 rfl rfl rfl ?_
  refine yr_iconst 37 C (0) dX6_init_36 rfl rfl ?_
  refine xx_put 40 C dX6_init_37 fp_X6_30 hI.2.1 (Nat.le_of_ble_eq_true rfl) rfl rfl (IW_put hI) rfl (fun h hI => ?_)
  replace hI : IW h0 a 7 [.int 0, .int 0, .ref q4, .ref q5, .null, .int (0), .int (0), .int (0), .int 0, .int 0, .int 0, .int 0, .int 0, .int 0, .int 0, .int 0, .int 0, .int 0] _ h := hI
  refine yr_aload_n 41 C dX6_init_40 rfl rfl rfl ?_
  refine yr_bipush 43 C (-5) dX6_init_41 rfl rfl ?_
  refine xx_put 46 C dX6_init_43 fp_X6_33 hI.2.1 (Nat.le_of_ble_eq_true rfl) rfl rfl (IW_put hI) rfl (fun h hI => ?_)
  replace hI : IW h0 a 7 [.int 0, .int 0, .ref q4, .ref q5, .null, .int (0), .int (0), .int (0), .int (-5), .int 0, .int 0, .int 0, .int 0, .int 0, .int 0, .int 0, .int 0, .int 0] _ h := hI
  refine yr_aload_n 47 C dX6_init_46 rfl rfl rfl ?_
  refine yr_bipush 49 C (-5) dX6_init_47 rfl rfl ?_
  refine xx_put 52 C dX6_init_49 fp_X6_36 hI.2.1 (Nat.le_of_ble_eq_true rfl) rfl rfl (IW_put hI) rfl (fun h hI => ?_)
  replace hI : IW h0 a 7 [.int 0, .int 0, .ref q4, .ref q5, .null, .int (0), .int (0), .int (0), .int (-5), .int (-5), .int 0, .int 0, .int 0, .int 0, .int 0, .int 0, .int 0, .int 0] _ h := hI
  refine yr_aload_n 53 C dX6_init_52 rfl rfl rfl ?_
  refine yr_iconst 54 C (0) dX6_init_53 rfl rfl ?_
  refine xx_put 57 C dX6_init_54 fp_X6_39 hI.2.1 (Nat.le_of_ble_eq_true rfl) rfl rfl (IW_put hI) rfl (fun h hI => ?_)
  replace hI : IW h0 a 7 [.int 0, .int 0, .ref q4, .ref q5, .null, .int (0), .int (0), .int (0), .int (-5), .int (-5), .int (0), .int 0, .int 0, .int 0, .int 0, .int 0, .int 0, .int 0] _ h := hI
  refine yr_aload_n 58 C dX6_init_57 rfl rfl rfl ?_
  refine yr_iconst 59 C (5) dX6_init_58 rfl rfl ?_
  refine xx_put 62 C dX6_init_59 fp_X6_42 hI.2.1 (Nat.le_of_ble_eq_true rfl) rfl rfl (IW_put hI) rfl (fun h hI => ?_)
  replace hI : IW h0 a 7 [.int 0, .int 0, .ref q4, .ref q5, .null, .int (0), .int (0), .int (0), .int (-5), .int (-5), .int (0), .int (5), .int 0, .int 0, .int 0, .int 0, .int 0, .int 0] _ h := hI
  refine yr_aload_n 63 C dX6_init_62 rfl rfl rfl ?_
  refine yr_bipush 65 C (20) dX6_init_63 rfl rfl ?_
  refine xx_put 68 C dX6_init_65 fp_X6_45 hI.2.1 (Nat.le_of_ble_eq_true rfl) rfl rfl (IW_put hI) rfl (fun h hI => ?_)
  replace hI : IW h0 a 7 [.int 0, .int 0, .ref q4, .ref q5, .null, .int (0), .int (0), .int (0), .int (-5), .int (-5), .int (0), .int (5), .int (20), .int 0, .int 0, .int 0, .int 0, .int 0] _ h := hI
  refine yr_aload_n 69 C dX6_init_68 rfl rfl rfl ?_
  refine yr_iconst 70 C (3) dX6_init_69 rfl rfl ?_
  refine xx_put 73 C dX6_init_70 fp_X6_48 hI.2.1 (Nat.le_of_ble_eq_true rfl) rfl rfl (IW_put hI) rfl (fun h hI => ?_)
  replace hI : IW h0 a 7 [.int 0, .int 0, .ref q4, .ref q5, .null, .int (0), .int (0), .int (0), .int (-5), .int (-5), .int (0), .int (5), .int (20), .int (3), .int 0, .int 0, .int 0, .int 0] _ h := hI
  refine yr_aload_n 74 C dX6_init_73 rfl rfl rfl ?_
  refine yr_iconst 75 C (0) dX6_init_74 rfl rfl ?_
  refine xx_put 78 C dX6_init_75 fp_X6_51 hI.2.1 (Nat.le_of_ble_eq_true rfl) rfl rfl (IW_put hI) rfl (fun h hI => ?_)
  replace hI : IW h0 a 7 [.int 0, .int 0, .ref q4, .ref q5, .null, .int (0), .int (0), .int (0), .int (-5), .int (-5), .int (0), .int (5), .int (20), .int (3), .int (0), .int 0, .int 0, .int 0] _ h := hI
  refine yr_aload_n 79 C dX6_init_78 rfl rfl rfl ?_
  refine yr_iconst 80 C (0) dX6_init_79 rfl rfl ?_
  refine xx_put 83 C dX6_init_80 fp_X6_54 hI.2.1 (Nat.le_of_ble_eq_true rfl) rfl rfl (IW_put hI) rfl (fun h hI => ?_)
  replace hI : IW h0 a 7 [.int 0, .int 0, .ref q4, .ref q5, .null, .int (0), .int (0), .int (0), .int (-5), .int (-5), .int (0), .int (5), .int (20), .int (3), .int (0), .int (0), .int 0, .int 0] _ h := hI
  refine yr_aload_n 84 C dX6_init_83 rfl rfl rfl ?_
  refine yr_iconst 85 C (0) dX6_init_84 rfl rfl ?_
  refine xx_put 88 C dX6_init_85 fp_X6_57 hI.2.1 (Nat.le_of_ble_eq_true rfl) rfl rfl (IW_put hI) rfl (fun h hI => ?_)
  replace hI : IW h0 a 7 [.int 0, .int 0, .ref q4, .ref q5, .null, .int (0), .int (0), .int (0), .int (-5), .int (-5), .int (0), .int (5), .int (20), .int (3), .int (0), .int (0), .int (0), .int 0] _ h := hI
  refine yr_aload_n 89 C dX6_init_88 rfl rfl rfl ?_
  refine yr_iconst 90 C (0) dX6_init_89 rfl rfl ?_
  refine xx_put 93 C dX6_init_90 fp_X6_60 hI.2.1 (Nat.le_of_ble_eq_true rfl) rfl rfl (IW_put hI) rfl (fun h hI => ?_)
  replace hI : IW h0 a 7 [.int 0, .int 0, .ref q4, .ref q5, .null, .int (0), .int (0), .int (0), .int (-5), .int (-5), .int (0), .int (5), .int (20), .int (3), .int (0), .int (0), .int (0), .int (0)] _ h := hI
  refine yr_aload_n 94 C dX6_init_93 rfl rfl rfl ?_
  refine yr_iload_n 95 C dX6_init_94 rfl rfl ?_
  refine xx_putF 98 C hin dX6_init_95 fp_X6_63 hI.2.1 (Nat.le_of_ble_eq_true rfl) rfl rfl (IW_put hI) rfl (fun h hI => ?_)
  replace hI : IW h0 a 7 [.int x, .int 0, .ref q4, .ref q5, .null, .int (0), .int (0), .int (0), .int (-5), .int (-5), .int (0), .int (5), .int (20), .int (3), .int (0), .int (0), .int (0), .int (0)] _ h := hI
  refine yr_aload_n 99 C dX6_init_98 rfl rfl rfl ?_
  refine yr_iload_n 100 C dX6_init_99 rfl rfl ?_
  refine xx_putF 103 C hin dX6_init_100 fp_X6_66 hI.2.1 (Nat.le_of_ble_eq_true rfl) rfl rfl (IW_put hI) rfl (fun h hI => ?_)
  replace hI : IW h0 a 7 [.int x, .int y, .ref q4, .ref q5, .null, .int (0), .int (0), .int (0), .int (-5), .int (-5), .int (0), .int (5), .int (20), .int (3), .int (0), .int (0), .int (0), .int (0)] _ h := hI
  refine yr_iconst 104 C (0) dX6_init_103 rfl rfl ?_
  refine yr_istore3 105 C dX6_init_104 (by decide) rfl ?_
  have loop105 : ∀ (j i : Nat) , i + j = 8 → ∀ h : yH, IW h0 a 7 [.int x, .int y, .ref q4, .ref q5, .null, .int 0, .int 0, .int 0, .int (-5), .int (-5), .int 0, .int 5, .int 20, .int 3, .int 0, .int 0, .int 0, .int 0] [(q5, .inl (dA 0, 61, .inl (fun _ => 0))), (q4, .inl (dA 0, 8, .inl (fun q => if q < i then -5 else 0)))] h → yW p l e (yR 1 2 69) s m args below meth c 4 D A (0 + 1 + 1) (0 + 8 + 61) (yF D A (fun r h' => r = none ∧ ∃ q4 q5, IW h0 a 7 [.int x, .int y, .ref q4, .ref q5, .null, .int 0, .int 0, .int 0, .int (-5), .int (-5), .int 0, .int 5, .int 20, .int 3, .int 0, .int 0, .int 0, .int 0] [(q5, .inl (dA 0, 61, .inl (fun _ => 0))), (q4, .inl (dA 0, 8, .inl (fun q => if q < 8 then -5 else 0)))] h') below args s 2 69) 105 [some (.ref a), some (.int x), some (.int y), some (.int (nI i))] [] h := by
    intro j
    induction j with
    | zero =>
      intro i  hij  h hI
      refine yr_iload_n 106 C dX6_init_105 rfl rfl ?_
      refine yr_aload_n 107 C dX6_init_106 rfl rfl rfl ?_
      refine yr_get 110 C dX6_init_107 fl_X6_9 hI.2.1 rfl rfl ?_
      refine yr_alen 111 0 C (8) dX6_init_110 (IW_e2 hI) rfl rfl rfl ?_
      refine yr_icmp_ge 128 114 C  dX6_init_111 (by decide) rfl (fun c111 => ?_) (fun c111 => ?_)
      rotate_left
      · exact absurd (by rw [show i = 8 by omega]; decide) c111
      refine yr_vret C dX6_init_128 hr (Nat.le_of_ble_eq_true rfl) (Nat.le_of_ble_eq_true rfl) ?_
      have ei : i = 8 := by omega
      subst ei
      exact ⟨rfl, q4, q5, hI⟩
    | succ j ih =>
      intro i  hij  h hI
      refine yr_iload_n 106 C dX6_init_105 rfl rfl ?_
      refine yr_aload_n 107 C dX6_init_106 rfl rfl rfl ?_
      refine yr_get 110 C dX6_init_107 fl_X6_9 hI.2.1 rfl rfl ?_
      refine yr_alen 111 0 C (8) dX6_init_110 (IW_e2 hI) rfl rfl rfl ?_
      refine yr_icmp_ge 128 114 C  dX6_init_111 (by decide) rfl (fun c111 => ?_) (fun c111 => ?_)
      · exact absurd c111 (nI_ge (b := 8) (by omega) (by decide))
      refine yr_aload_n 115 C dX6_init_114 rfl rfl rfl ?_
      refine yr_get 118 C dX6_init_115 fl_X6_9 hI.2.1 rfl rfl ?_
      refine yr_iload_n 119 C dX6_init_118 rfl rfl ?_
      refine yr_bipush 121 C (-5) dX6_init_119 rfl rfl ?_
      refine xx_iast 122 C dX6_init_121 (IW_e2 hI) (by omega) (by decide) (IW_set2 hI) rfl (fun h hI => ?_)
      have ef : upd (fun q : Nat => if q < i then (-5 : Int32) else 0) i (-5) = (fun q => if q < i + 1 then -5 else 0) := by
        funext q
        unfold upd
        by_cases c1 : q = i
        · rw [if_pos c1, if_pos (by omega)]
        · rw [if_neg c1]
          show (if q < i then (-5 : Int32) else 0) = _
          by_cases c2 : q < i
          · rw [if_pos c2, if_pos (by omega)]
          · rw [if_neg c2, if_neg (by omega)]
      rw [ef] at hI
      refine yr_iinc3 125 C (1) dX6_init_122 rfl (by decide) rfl ?_
      rw [nI_1]
      refine yr_goto 105 C dX6_init_125 (by decide) ?_
      exact ih (i + 1) (by omega) h hI
  exact loop105 8 0 (by omega) h (by rw [show (fun q : Nat => if q < 0 then (-5 : Int32) else 0) = (fun _ => 0) from by funext q; rw [if_neg (Nat.not_lt_zero q)]]; exact hI)
end X22
