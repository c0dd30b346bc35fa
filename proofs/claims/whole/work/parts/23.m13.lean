def mN8 (v : Int32) : Nat → Int32 := upd (upd (upd (upd (upd (upd (upd (upd (fun _ => 0) 0 v) 1 v) 2 v) 3 v) 4 v) 5 v) 6 v) 7 v
def mS0 : yS := fun k => match k with
  | 4 => mN8 (-5)
  | 8 => mN8 (-5)
  | 10 => mN8 (-5)
  | 11 => mN8 5
  | 12 => mN8 20
  | 13 => mN8 3
  | 34 => fun _ => -5
  | 38 => fun _ => -1
  | 39 => fun _ => -5
  | 42 => fun _ => -5
  | 48 => fun _ => -5
  | _ => fun _ => 0
def mD (k : Nat) : Value := if mA k = true then .null else .int 0
def mFs0 : List Value := (List.range 53).map mD
/-- the reference's object while it is made: the fields of dn stand -/
def yMP (dA : Nat → ClassId) (m0 : Nat) (ad : Nat → Nat) (S : yS) (dn : List Nat) (h : yH) : Prop :=
  (∃ fs : List Value, h m0 = some (.inr (10, fs)) ∧ fs.length = 53 ∧ (∀ k, k < 53 → k ∈ dn → fs[k]? = some (mV ad S k)) ∧ ∀ k, k < 53 → k ∉ dn → fs[k]? = some (mD k)) ∧
  (∀ k, k ∈ dn → mA k = true → h (ad k) = some (.inl (dA (mT k), mL k, .inl (S k)))) ∧
  (∀ j k, j ∈ dn → k ∈ dn → mA j = true → mA k = true → ad j = ad k → j = k)
def yMQ (dA : Nat → ClassId) (m0 : Nat) (ad : Nat → Nat) (S : yS) (dn : List Nat) (q t N : Nat) (f : Nat → Int32) (h : yH) : Prop :=
  yMP dA m0 ad S dn h ∧ h q = some (.inl (dA t, N, .inl f)) ∧ ∀ k, k ∈ dn → mA k = true → ad k ≠ q
theorem yMP_up {dA : Nat → ClassId} {m0 : Nat} {ad : Nat → Nat} {S : yS} {dn : List Nat} {h : yH} (hP : yMP dA m0 ad S dn h) {q : Nat} {e : va_E} (h1 : q ≠ m0) (h2 : ∀ k, k ∈ dn → mA k = true → ad k ≠ q) : yMP dA m0 ad S dn (va_up h q (some e)) := by
  obtain ⟨⟨fs, a1, a2, a3, a4⟩, b, c⟩ := hP
  refine ⟨⟨fs, by simp only [va_up, if_neg (Ne.symm h1)]; exact a1, a2, a3, a4⟩, fun k hk hA => ?_, c⟩
  simp only [va_up, if_neg (h2 k hk hA)]
  exact b k hk hA
section MI
variable {Z : (Nat → Prop) → State → Prop} {D : va_G} {dA : Nat → ClassId} {p : Program} {l : Launch} {e : Env} {R : Room} {s : State} {m : MethodId} {args : Array Value} {below : List Frame} {meth : Method} {c : Code} {cc : ByteArray} {nL : Nat} {own : String} {A : Nat → Prop} {cells slots : Nat} {Q : State → Prop} {pc : Nat} {lv : List (Option Value)} {st : List Value} {h : yH}
variable {ad : Nat → Nat} {m0 : Nat} {S : yS} {dn : List Nat}
theorem yi_newI (pc2 : Nat) (C : yC Z D dA p s m args meth c cc nL own A) (hP : yMP dA m0 ad S dn h) {n : Int32} (N' : Nat) (d : decode cc pc = .ok (.newarray .int, 2)) (hN : n.toNatClampNeg = N') (hn : ¬ n < 0) (hb : N' * componentBytes .int ≤ 536870912) (h1 : cells + 1 ≤ R.cells) (h2 : slots + N' ≤ R.slots) (hp : pc + 2 = pc2) (kk : ∀ (q : Nat) (h : yH), yMQ dA m0 ad S dn q 0 N' (fun _ => 0) h → yW p l e R s m args below meth c nL D A (cells + 1) (slots + N') Q pc2 lv (.ref q :: st) (h)) : yW p l e R s m args below meth c nL D A cells slots Q pc lv (.int n :: st) (h) := by
  refine yr_newaI pc2 C N' d ac_int hn hN hb h1 h2 hp (fun q hq => kk q _ ⟨yMP_up hP (fun z => ?_) (fun k hk hA z => ?_), by simp [va_up], fun k hk hA z => ?_⟩)
  · obtain ⟨⟨fs, a1, -⟩, -⟩ := hP
    rw [z, a1] at hq
    cases hq
  · have := hP.2.1 k hk hA
    rw [z, hq] at this
    cases this
  · have := hP.2.1 k hk hA
    rw [z, hq] at this
    cases this
theorem yi_newZ (pc2 : Nat) (C : yC Z D dA p s m args meth c cc nL own A) (hP : yMP dA m0 ad S dn h) {n : Int32} (N' : Nat) (d : decode cc pc = .ok (.newarray .boolean, 2)) (hN : n.toNatClampNeg = N') (hn : ¬ n < 0) (hb : N' * componentBytes .boolean ≤ 536870912) (h1 : cells + 1 ≤ R.cells) (h2 : slots + N' ≤ R.slots) (hp : pc + 2 = pc2) (kk : ∀ (q : Nat) (h : yH), yMQ dA m0 ad S dn q 3 N' (fun _ => 0) h → yW p l e R s m args below meth c nL D A (cells + 1) (slots + N') Q pc2 lv (.ref q :: st) (h)) : yW p l e R s m args below meth c nL D A cells slots Q pc lv (.int n :: st) (h) := by
  refine yr_newaZ pc2 C N' d ac_boolean hn hN hb h1 h2 hp (fun q hq => kk q _ ⟨yMP_up hP (fun z => ?_) (fun k hk hA z => ?_), by simp [va_up], fun k hk hA z => ?_⟩)
  · obtain ⟨⟨fs, a1, -⟩, -⟩ := hP
    rw [z, a1] at hq
    cases hq
  · have := hP.2.1 k hk hA
    rw [z, hq] at this
    cases this
  · have := hP.2.1 k hk hA
    rw [z, hq] at this
    cases this
theorem yi_ast (pc2 : Nat) (C : yC Z D dA p s m args meth c cc nL own A) {q N : Nat} {f : Nat → Int32} (hP : yMQ dA m0 ad S dn q 0 N f h) {i x : Int32} (i' : Nat) (d : decode cc pc = .ok (.iastore, 1)) (hi : i.toNatClampNeg = i') (hin : vp_in i N) (hp : pc + 1 = pc2) (kk : ∀ h : yH, yMQ dA m0 ad S dn q 0 N (upd f i' x) h → yW p l e R s m args below meth c nL D A cells slots Q pc2 lv (st) (h)) : yW p l e R s m args below meth c nL D A cells slots Q pc lv (.int x :: .int i :: .ref q :: st) (h) := by
  refine yr_iast pc2 C d hP.2.1 hin hp (kk _ ⟨yMP_up hP.1 (fun z => ?_) hP.2.2, ?_, hP.2.2⟩)
  · obtain ⟨⟨⟨fs, a1, -⟩, -⟩, a2, -⟩ := hP
    rw [z, a1] at a2
    cases a2
  · subst hi
    simp [va_up]
theorem yi_put (pc2 : Nat) (C : yC Z D dA p s m args meth c cc nL own A) (hin : meth.name = "<init>") {q t N : Nat} {f : Nat → Int32} (hP : yMQ dA m0 ad S dn q t N f h) {k idx : Nat} {ty : FieldType} (d : decode cc pc = .ok (.putfield idx, 3)) (hl : yFp own idx 10 k (.array ty) true) (hk : k < 53) (hA : mA k = true) (hT : mT k = t) (hL : mL k = N) (hS : S k = f) (hd : k ∉ dn) (hp : pc + 3 = pc2) (kk : ∀ h : yH, yMP dA m0 (va_up ad k q) S (k :: dn) h → yW p l e R s m args below meth c nL D A cells slots Q pc2 lv (st) (h)) : yW p l e R s m args below meth c nL D A cells slots Q pc lv (.ref q :: .ref m0 :: st) (h) := by
  obtain ⟨⟨⟨fs, a1, a2, a3, a4⟩, b, c⟩, e1, e2⟩ := hP
  refine yr_putF pc2 C hin d hl a1 (by rw [a2]; exact hk) rfl rfl hp (kk _ ⟨⟨fs.set k (.ref q), by simp [va_up], by rw [List.length_set]; exact a2, fun j hj hm => ?_, fun j hj hm => ?_⟩, fun j hj hjA => ?_, fun i j hi hj hiA hjA hij => ?_⟩)
  · by_cases z : j = k
    · subst z
      rw [List.getElem?_set_self (by rw [a2]; exact hk)]
      simp [mV, hA, va_up]
    · rw [List.getElem?_set_ne (Ne.symm z)]
      rcases List.mem_cons.mp hm with y | y
      · exact absurd y z
      · rw [a3 j hj y]
        simp only [mV, va_up, if_neg z]
  · have z : j ≠ k := fun z => hm (by rw [z]; exact List.mem_cons_self)
    rw [List.getElem?_set_ne (Ne.symm z)]
    exact a4 j hj (fun y => hm (List.mem_cons_of_mem _ y))
  · have q0 : q ≠ m0 := fun z => by rw [z, a1] at e1; cases e1
    by_cases z : j = k
    · subst z
      simp only [va_up, if_true, if_neg q0]
      rw [e1, hT, hL, hS]
    · rcases List.mem_cons.mp hj with y | y
      · exact absurd y z
      · have w1 := b j y hjA
        have w2 : ad j ≠ m0 := fun v => by rw [v, a1] at w1; cases w1
        simp only [va_up, if_neg z, if_neg w2]
        exact w1
  · simp only [va_up] at hij
    by_cases z1 : i = k
    · by_cases z2 : j = k
      · rw [z1, z2]
      · rw [if_pos z1, if_neg z2] at hij
        rcases List.mem_cons.mp hj with y | y
        · exact absurd y z2
        · exact absurd hij.symm (e2 j y hjA)
    · rcases List.mem_cons.mp hi with y | y
      · exact absurd y z1
      · by_cases z2 : j = k
        · rw [if_neg z1, if_pos z2] at hij
          exact absurd hij (e2 i y hiA)
        · rw [if_neg z1, if_neg z2] at hij
          rcases List.mem_cons.mp hj with y2 | y2
          · exact absurd y2 z2
          · exact c i j y y2 hiA hjA hij
theorem yi_puts (pc2 : Nat) (C : yC Z D dA p s m args meth c cc nL own A) (hP : yMP dA m0 ad S dn h) {k idx : Nat} {v : Int32} (d : decode cc pc = .ok (.putfield idx, 3)) (hl : yFp own idx 10 k .int false) (hk : k < 53) (hA : mA k = false) (hS : S k 0 = v) (hd : k ∉ dn) (hp : pc + 3 = pc2) (kk : ∀ h : yH, yMP dA m0 ad S (k :: dn) h → yW p l e R s m args below meth c nL D A cells slots Q pc2 lv (st) (h)) : yW p l e R s m args below meth c nL D A cells slots Q pc lv (.int v :: .ref m0 :: st) (h) := by
  obtain ⟨⟨fs, a1, a2, a3, a4⟩, b, c⟩ := hP
  have nA : ∀ j, j ∈ k :: dn → mA j = true → j ∈ dn := fun j hj hjA => by
    rcases List.mem_cons.mp hj with y | y
    · rw [y, hA] at hjA; cases hjA
    · exact y
  refine yr_put pc2 C d hl a1 (by rw [a2]; exact hk) rfl rfl hp (kk _ ⟨⟨fs.set k (.int v), by simp [va_up], by rw [List.length_set]; exact a2, fun j hj hm => ?_, fun j hj hm => ?_⟩, fun j hj hjA => ?_, fun i j hi hj hiA hjA hij => c i j (nA i hi hiA) (nA j hj hjA) hiA hjA hij⟩)
  · by_cases z : j = k
    · subst z
      rw [List.getElem?_set_self (by rw [a2]; exact hk)]
      simp [mV, hA, hS]
    · rw [List.getElem?_set_ne (Ne.symm z)]
      rcases List.mem_cons.mp hm with y | y
      · exact absurd y z
      · exact a3 j hj y
  · have z : j ≠ k := fun z => hm (by rw [z]; exact List.mem_cons_self)
    rw [List.getElem?_set_ne (Ne.symm z)]
    exact a4 j hj (fun y => hm (List.mem_cons_of_mem _ y))
  · have w1 := b j (nA j hj hjA) hjA
    have w2 : ad j ≠ m0 := fun q => by rw [q, a1] at w1; cases w1
    simp only [va_up, if_neg w2]
    exact w1
end MI
theorem yMP_end {dA : Nat → ClassId} {m0 : Nat} {ad : Nat → Nat} {S : yS} {dn : List Nat} {h : yH} (hP : yMP dA m0 ad S dn h) (hd : ∀ k, k < 53 → k ∉ dn → mA k = false ∧ S k 0 = 0) : yMR dA ad m0 S h := by
  obtain ⟨⟨fs, a1, a2, a3, a4⟩, b, c⟩ := hP
  have arr : ∀ k, k < 53 → mA k = true → k ∈ dn := fun k hk hA => by
    by_cases z : k ∈ dn
    · exact z
    · have := (hd k hk z).1
      rw [hA] at this
      cases this
  have e : fs = mF ad S := by
    apply List.ext_getElem?
    intro k
    by_cases hk : k < 53
    · rw [mF_get hk]
      by_cases z : k ∈ dn
      · exact a3 k hk z
      · obtain ⟨p1, p2⟩ := hd k hk z
        rw [a4 k hk z]
        simp [mD, mV, p1, p2]
    · rw [List.getElem?_eq_none (by omega), List.getElem?_eq_none (by rw [mF_len]; omega)]
  subst e
  exact ⟨a1, fun k hk hA => b k (arr k hk hA) hA, fun j k hj hk hjA hkA q => c j k (arr j hj hjA) (arr k hk hkA) hjA hkA q⟩
section MI2
variable {Z : (Nat → Prop) → State → Prop} {D : va_G} {dA : Nat → ClassId} {m0 : Nat}
set_option maxHeartbeats 4000000 in
set_option maxRecDepth 100000 in
theorem mc_init (hZ : yZok D dA Z) (h : yH) (h0 : h m0 = some (.inr (10, mFs0))) : yM Z D yX9_init cX9_init 1 none 1 31 5613 [.ref m0] h (fun r h' => r = none ∧ ∃ ad : Nat → Nat, yMR dA ad m0 mS0 h') := by
  refine yM_of hZ (by decide) rfl (Nat.le_of_ble_eq_true rfl) ?_
  intro p l e s m args below meth c A C hr hin
  show yW p l e (yR 1 31 5613) s m args below meth c 1 D A 0 0 _ 0 [some (.ref m0)] [] h
  have hP : yMP dA m0 (fun _ => 0) mS0 [] h := by
    refine ⟨⟨mFs0, h0, by unfold mFs0; rw [List.length_map, List.length_range], fun k _ hk => absurd hk List.not_mem_nil, fun k hk _ => ?_⟩, fun k hk => absurd hk List.not_mem_nil, fun j k hj => absurd hj List.not_mem_nil⟩
    unfold mFs0
    rw [List.getElem?_map, List.getElem?_range hk]
    rfl
  refine yr_aload_n 1 C dX9_init_0 rfl rfl rfl ?_
  refine yr_objInit 4 C dX9_init_1 ml_X9_1 oi_i oi_c (Nat.le_of_ble_eq_true rfl) (Nat.le_of_ble_eq_true rfl) rfl ?_
  refine yr_aload_n 5 C dX9_init_4 rfl rfl rfl ?_
  refine yr_bipush 7 C (8) dX9_init_5 rfl rfl ?_
  refine yi_newI 9 C hP 8 dX9_init_7 rfl (by decide) (by decide) (Nat.le_of_ble_eq_true rfl) (Nat.le_of_ble_eq_true rfl) rfl (fun q h hP => ?_)
  refine yi_put 12 C hin hP dX9_init_9 fp_X9_7 (by decide) rfl rfl rfl rfl (by decide) rfl (fun h hP => ?_)
  refine yr_aload_n 13 C dX9_init_12 rfl rfl rfl ?_
  refine yr_bipush 15 C (8) dX9_init_13 rfl rfl ?_
  refine yi_newI 17 C hP 8 dX9_init_15 rfl (by decide) (by decide) (Nat.le_of_ble_eq_true rfl) (Nat.le_of_ble_eq_true rfl) rfl (fun q h hP => ?_)
  refine yi_put 20 C hin hP dX9_init_17 fp_X9_13 (by decide) rfl rfl rfl rfl (by decide) rfl (fun h hP => ?_)
  refine yr_aload_n 21 C dX9_init_20 rfl rfl rfl ?_
  refine yr_bipush 23 C (8) dX9_init_21 rfl rfl ?_
  refine yi_newI 25 C hP 8 dX9_init_23 rfl (by decide) (by decide) (Nat.le_of_ble_eq_true rfl) (Nat.le_of_ble_eq_true rfl) rfl (fun q h hP => ?_)
  refine yr_dup 26 C dX9_init_25 rfl rfl ?_
  refine yr_iconst 27 C (0) dX9_init_26 rfl rfl ?_
  refine yr_bipush 29 C (-5) dX9_init_27 rfl rfl ?_
  refine yi_ast 30 C hP 0 dX9_init_29 rfl (by unfold vp_in; decide) rfl (fun h hP => ?_)
  refine yr_dup 31 C dX9_init_30 rfl rfl ?_
  refine yr_iconst 32 C (1) dX9_init_31 rfl rfl ?_
  refine yr_bipush 34 C (-5) dX9_init_32 rfl rfl ?_
  refine yi_ast 35 C hP 1 dX9_init_34 rfl (by unfold vp_in; decide) rfl (fun h hP => ?_)
  refine yr_dup 36 C dX9_init_35 rfl rfl ?_
  refine yr_iconst 37 C (2) dX9_init_36 rfl rfl ?_
  refine yr_bipush 39 C (-5) dX9_init_37 rfl rfl ?_
  refine yi_ast 40 C hP 2 dX9_init_39 rfl (by unfold vp_in; decide) rfl (fun h hP => ?_)
  refine yr_dup 41 C dX9_init_40 rfl rfl ?_
  refine yr_iconst 42 C (3) dX9_init_41 rfl rfl ?_
  refine yr_bipush 44 C (-5) dX9_init_42 rfl rfl ?_
  refine yi_ast 45 C hP 3 dX9_init_44 rfl (by unfold vp_in; decide) rfl (fun h hP => ?_)
  refine yr_dup 46 C dX9_init_45 rfl rfl ?_
  refine yr_iconst 47 C (4) dX9_init_46 rfl rfl ?_
  refine yr_bipush 49 C (-5) dX9_init_47 rfl rfl ?_
  refine yi_ast 50 C hP 4 dX9_init_49 rfl (by unfold vp_in; decide) rfl (fun h hP => ?_)
  refine yr_dup 51 C dX9_init_50 rfl rfl ?_
  refine yr_iconst 52 C (5) dX9_init_51 rfl rfl ?_
  refine yr_bipush 54 C (-5) dX9_init_52 rfl rfl ?_
  refine yi_ast 55 C hP 5 dX9_init_54 rfl (by unfold vp_in; decide) rfl (fun h hP => ?_)
  refine yr_dup 56 C dX9_init_55 rfl rfl ?_
  refine yr_bipush 58 C (6) dX9_init_56 rfl rfl ?_
  refine yr_bipush 60 C (-5) dX9_init_58 rfl rfl ?_
  refine yi_ast 61 C hP 6 dX9_init_60 rfl (by unfold vp_in; decide) rfl (fun h hP => ?_)
  refine yr_dup 62 C dX9_init_61 rfl rfl ?_
  refine yr_bipush 64 C (7) dX9_init_62 rfl rfl ?_
  refine yr_bipush 66 C (-5) dX9_init_64 rfl rfl ?_
  refine yi_ast 67 C hP 7 dX9_init_66 rfl (by unfold vp_in; decide) rfl (fun h hP => ?_)
  refine yi_put 70 C hin hP dX9_init_67 fp_X9_16 (by decide) rfl rfl rfl rfl (by decide) rfl (fun h hP => ?_)
  refine yr_aload_n 71 C dX9_init_70 rfl rfl rfl ?_
  refine yr_bipush 73 C (8) dX9_init_71 rfl rfl ?_
  refine yi_newI 75 C hP 8 dX9_init_73 rfl (by decide) (by decide) (Nat.le_of_ble_eq_true rfl) (Nat.le_of_ble_eq_true rfl) rfl (fun q h hP => ?_)
  refine yi_put 78 C hin hP dX9_init_75 fp_X9_19 (by decide) rfl rfl rfl rfl (by decide) rfl (fun h hP => ?_)
  refine yr_aload_n 79 C dX9_init_78 rfl rfl rfl ?_
  refine yr_bipush 81 C (8) dX9_init_79 rfl rfl ?_
  refine yi_newI 83 C hP 8 dX9_init_81 rfl (by decide) (by decide) (Nat.le_of_ble_eq_true rfl) (Nat.le_of_ble_eq_true rfl) rfl (fun q h hP => ?_)
  refine yi_put 86 C hin hP dX9_init_83 fp_X9_22 (by decide) rfl rfl rfl rfl (by decide) rfl (fun h hP => ?_)
  refine yr_aload_n 87 C dX9_init_86 rfl rfl rfl ?_
  refine yr_bipush 89 C (8) dX9_init_87 rfl rfl ?_
  refine yi_newI 91 C hP 8 dX9_init_89 rfl (by decide) (by decide) (Nat.le_of_ble_eq_true rfl) (Nat.le_of_ble_eq_true rfl) rfl (fun q h hP => ?_)
  refine yi_put 94 C hin hP dX9_init_91 fp_X9_25 (by decide) rfl rfl rfl rfl (by decide) rfl (fun h hP => ?_)
  refine yr_aload_n 95 C dX9_init_94 rfl rfl rfl ?_
  refine yr_bipush 97 C (8) dX9_init_95 rfl rfl ?_
  refine yi_newI 99 C hP 8 dX9_init_97 rfl (by decide) (by decide) (Nat.le_of_ble_eq_true rfl) (Nat.le_of_ble_eq_true rfl) rfl (fun q h hP => ?_)
  refine yr_dup 100 C dX9_init_99 rfl rfl ?_
  refine yr_iconst 101 C (0) dX9_init_100 rfl rfl ?_
  refine yr_bipush 103 C (-5) dX9_init_101 rfl rfl ?_
  refine yi_ast 104 C hP 0 dX9_init_103 rfl (by unfold vp_in; decide) rfl (fun h hP => ?_)
  refine yr_dup 105 C dX9_init_104 rfl rfl ?_
  refine yr_iconst 106 C (1) dX9_init_105 rfl rfl ?_
  refine yr_bipush 108 C (-5) dX9_init_106 rfl rfl ?_
  refine yi_ast 109 C hP 1 dX9_init_108 rfl (by unfold vp_in; decide) rfl (fun h hP => ?_)
  refine yr_dup 110 C dX9_init_109 rfl rfl ?_
  refine yr_iconst 111 C (2) dX9_init_110 rfl rfl ?_
  refine yr_bipush 113 C (-5) dX9_init_111 rfl rfl ?_
  refine yi_ast 114 C hP 2 dX9_init_113 rfl (by unfold vp_in; decide) rfl (fun h hP => ?_)
  refine yr_dup 115 C dX9_init_114 rfl rfl ?_
  refine yr_iconst 116 C (3) dX9_init_115 rfl rfl ?_
  refine yr_bipush 118 C (-5) dX9_init_116 rfl rfl ?_
  refine yi_ast 119 C hP 3 dX9_init_118 rfl (by unfold vp_in; decide) rfl (fun h hP => ?_)
  refine yr_dup 120 C dX9_init_119 rfl rfl ?_
  refine yr_iconst 121 C (4) dX9_init_120 rfl rfl ?_
  refine yr_bipush 123 C (-5) dX9_init_121 rfl rfl ?_
  refine yi_ast 124 C hP 4 dX9_init_123 rfl (by unfold vp_in; decide) rfl (fun h hP => ?_)
  refine yr_dup 125 C dX9_init_124 rfl rfl ?_
  refine yr_iconst 126 C (5) dX9_init_125 rfl rfl ?_
  refine yr_bipush 128 C (-5) dX9_init_126 rfl rfl ?_
  refine yi_ast 129 C hP 5 dX9_init_128 rfl (by unfold vp_in; decide) rfl (fun h hP => ?_)
  refine yr_dup 130 C dX9_init_129 rfl rfl ?_
  refine yr_bipush 132 C (6) dX9_init_130 rfl rfl ?_
  refine yr_bipush 134 C (-5) dX9_init_132 rfl rfl ?_
  refine yi_ast 135 C hP 6 dX9_init_134 rfl (by unfold vp_in; decide) rfl (fun h hP => ?_)
  refine yr_dup 136 C dX9_init_135 rfl rfl ?_
  refine yr_bipush 138 C (7) dX9_init_136 rfl rfl ?_
  refine yr_bipush 140 C (-5) dX9_init_138 rfl rfl ?_
  refine yi_ast 141 C hP 7 dX9_init_140 rfl (by unfold vp_in; decide) rfl (fun h hP => ?_)
  refine yi_put 144 C hin hP dX9_init_141 fp_X9_28 (by decide) rfl rfl rfl rfl (by decide) rfl (fun h hP => ?_)
  refine yr_aload_n 145 C dX9_init_144 rfl rfl rfl ?_
  refine yr_bipush 147 C (8) dX9_init_145 rfl rfl ?_
  refine yi_newI 149 C hP 8 dX9_init_147 rfl (by decide) (by decide) (Nat.le_of_ble_eq_true rfl) (Nat.le_of_ble_eq_true rfl) rfl (fun q h hP => ?_)
  refine yi_put 152 C hin hP dX9_init_149 fp_X9_31 (by decide) rfl rfl rfl rfl (by decide) rfl (fun h hP => ?_)
  refine yr_aload_n 153 C dX9_init_152 rfl rfl rfl ?_
  refine yr_bipush 155 C (8) dX9_init_153 rfl rfl ?_
  refine yi_newI 157 C hP 8 dX9_init_155 rfl (by decide) (by decide) (Nat.le_of_ble_eq_true rfl) (Nat.le_of_ble_eq_true rfl) rfl (fun q h hP => ?_)
  refine yr_dup 158 C dX9_init_157 rfl rfl ?_
  refine yr_iconst 159 C (0) dX9_init_158 rfl rfl ?_
  refine yr_bipush 161 C (-5) dX9_init_159 rfl rfl ?_
  refine yi_ast 162 C hP 0 dX9_init_161 rfl (by unfold vp_in; decide) rfl (fun h hP => ?_)
  refine yr_dup 163 C dX9_init_162 rfl rfl ?_
  refine yr_iconst 164 C (1) dX9_init_163 rfl rfl ?_
  refine yr_bipush 166 C (-5) dX9_init_164 rfl rfl ?_
  refine yi_ast 167 C hP 1 dX9_init_166 rfl (by unfold vp_in; decide) rfl (fun h hP => ?_)
  refine yr_dup 168 C dX9_init_167 rfl rfl ?_
  refine yr_iconst 169 C (2) dX9_init_168 rfl rfl ?_
  refine yr_bipush 171 C (-5) dX9_init_169 rfl rfl ?_
  refine yi_ast 172 C hP 2 dX9_init_171 rfl (by unfold vp_in; decide) rfl (fun h hP => ?_)
  refine yr_dup 173 C dX9_init_172 rfl rfl ?_
  refine yr_iconst 174 C (3) dX9_init_173 rfl rfl ?_
  refine yr_bipush 176 C (-5) dX9_init_174 rfl rfl ?_
  refine yi_ast 177 C hP 3 dX9_init_176 rfl (by unfold vp_in; decide) rfl (fun h hP => ?_)
  refine yr_dup 178 C dX9_init_177 rfl rfl ?_
  refine yr_iconst 179 C (4) dX9_init_178 rfl rfl ?_
  refine yr_bipush 181 C (-5) dX9_init_179 rfl rfl ?_
  refine yi_ast 182 C hP 4 dX9_init_181 rfl (by unfold vp_in; decide) rfl (fun h hP => ?_)
  refine yr_dup 183 C dX9_init_182 rfl rfl ?_
  refine yr_iconst 184 C (5) dX9_init_183 rfl rfl ?_
  refine yr_bipush 186 C (-5) dX9_init_184 rfl rfl ?_
  refine yi_ast 187 C hP 5 dX9_init_186 rfl (by unfold vp_in; decide) rfl (fun h hP => ?_)
  refine yr_dup 188 C dX9_init_187 rfl rfl ?_
  refine yr_bipush 190 C (6) dX9_init_188 rfl rfl ?_
  refine yr_bipush 192 C (-5) dX9_init_190 rfl rfl ?_
  refine yi_ast 193 C hP 6 dX9_init_192 rfl (by unfold vp_in; decide) rfl (fun h hP => ?_)
  refine yr_dup 194 C dX9_init_193 rfl rfl ?_
  refine yr_bipush 196 C (7) dX9_init_194 rfl rfl ?_
  refine yr_bipush 198 C (-5) dX9_init_196 rfl rfl ?_
  refine yi_ast 199 C hP 7 dX9_init_198 rfl (by unfold vp_in; decide) rfl (fun h hP => ?_)
  refine yi_put 202 C hin hP dX9_init_199 fp_X9_34 (by decide) rfl rfl rfl rfl (by decide) rfl (fun h hP => ?_)
  refine yr_aload_n 203 C dX9_init_202 rfl rfl rfl ?_
  refine yr_bipush 205 C (8) dX9_init_203 rfl rfl ?_
  refine yi_newI 207 C hP 8 dX9_init_205 rfl (by decide) (by decide) (Nat.le_of_ble_eq_true rfl) (Nat.le_of_ble_eq_true rfl) rfl (fun q h hP => ?_)
  refine yr_dup 208 C dX9_init_207 rfl rfl ?_
  refine yr_iconst 209 C (0) dX9_init_208 rfl rfl ?_
  refine yr_iconst 210 C (5) dX9_init_209 rfl rfl ?_
  refine yi_ast 211 C hP 0 dX9_init_210 rfl (by unfold vp_in; decide) rfl (fun h hP => ?_)
  refine yr_dup 212 C dX9_init_211 rfl rfl ?_
  refine yr_iconst 213 C (1) dX9_init_212 rfl rfl ?_
  refine yr_iconst 214 C (5) dX9_init_213 rfl rfl ?_
  refine yi_ast 215 C hP 1 dX9_init_214 rfl (by unfold vp_in; decide) rfl (fun h hP => ?_)
  refine yr_dup 216 C dX9_init_215 rfl rfl ?_
  refine yr_iconst 217 C (2) dX9_init_216 rfl rfl ?_
  refine yr_iconst 218 C (5) dX9_init_217 rfl rfl ?_
  refine yi_ast 219 C hP 2 dX9_init_218 rfl (by unfold vp_in; decide) rfl (fun h hP => ?_)
  refine yr_dup 220 C dX9_init_219 rfl rfl ?_
  refine yr_iconst 221 C (3) dX9_init_220 rfl rfl ?_
  refine yr_iconst 222 C (5) dX9_init_221 rfl rfl ?_
  refine yi_ast 223 C hP 3 dX9_init_222 rfl (by unfold vp_in; decide) rfl (fun h hP => ?_)
  refine yr_dup 224 C dX9_init_223 rfl rfl ?_
  refine yr_iconst 225 C (4) dX9_init_224 rfl rfl ?_
  refine yr_iconst 226 C (5) dX9_init_225 rfl rfl ?_
  refine yi_ast 227 C hP 4 dX9_init_226 rfl (by unfold vp_in; decide) rfl (fun h hP => ?_)
  refine yr_dup 228 C dX9_init_227 rfl rfl ?_
  refine yr_iconst 229 C (5) dX9_init_228 rfl rfl ?_
  refine yr_iconst 230 C (5) dX9_init_229 rfl rfl ?_
  refine yi_ast 231 C hP 5 dX9_init_230 rfl (by unfold vp_in; decide) rfl (fun h hP => ?_)
  refine yr_dup 232 C dX9_init_231 rfl rfl ?_
  refine yr_bipush 234 C (6) dX9_init_232 rfl rfl ?_
  refine yr_iconst 235 C (5) dX9_init_234 rfl rfl ?_
  refine yi_ast 236 C hP 6 dX9_init_235 rfl (by unfold vp_in; decide) rfl (fun h hP => ?_)
  refine yr_dup 237 C dX9_init_236 rfl rfl ?_
  refine yr_bipush 239 C (7) dX9_init_237 rfl rfl ?_
  refine yr_iconst 240 C (5) dX9_init_239 rfl rfl ?_
  refine yi_ast 241 C hP 7 dX9_init_240 rfl (by unfold vp_in; decide) rfl (fun h hP => ?_)
  refine yi_put 244 C hin hP dX9_init_241 fp_X9_37 (by decide) rfl rfl rfl rfl (by decide) rfl (fun h hP => ?_)
  refine yr_aload_n 245 C dX9_init_244 rfl rfl rfl ?_
  refine yr_bipush 247 C (8) dX9_init_245 rfl rfl ?_
  refine yi_newI 249 C hP 8 dX9_init_247 rfl (by decide) (by decide) (Nat.le_of_ble_eq_true rfl) (Nat.le_of_ble_eq_true rfl) rfl (fun q h hP => ?_)
  refine yr_dup 250 C dX9_init_249 rfl rfl ?_
  refine yr_iconst 251 C (0) dX9_init_250 rfl rfl ?_
  refine yr_bipush 253 C (20) dX9_init_251 rfl rfl ?_
  refine yi_ast 254 C hP 0 dX9_init_253 rfl (by unfold vp_in; decide) rfl (fun h hP => ?_)
  refine yr_dup 255 C dX9_init_254 rfl rfl ?_
  refine yr_iconst 256 C (1) dX9_init_255 rfl rfl ?_
  refine yr_bipush 258 C (20) dX9_init_256 rfl rfl ?_
  refine yi_ast 259 C hP 1 dX9_init_258 rfl (by unfold vp_in; decide) rfl (fun h hP => ?_)
  refine yr_dup 260 C dX9_init_259 rfl rfl ?_
  refine yr_iconst 261 C (2) dX9_init_260 rfl rfl ?_
  refine yr_bipush 263 C (20) dX9_init_261 rfl rfl ?_
  refine yi_ast 264 C hP 2 dX9_init_263 rfl (by unfold vp_in; decide) rfl (fun h hP => ?_)
  refine yr_dup 265 C dX9_init_264 rfl rfl ?_
  refine yr_iconst 266 C (3) dX9_init_265 rfl rfl ?_
  refine yr_bipush 268 C (20) dX9_init_266 rfl rfl ?_
  refine yi_ast 269 C hP 3 dX9_init_268 rfl (by unfold vp_in; decide) rfl (fun h hP => ?_)
  refine yr_dup 270 C dX9_init_269 rfl rfl ?_
  refine yr_iconst 271 C (4) dX9_init_270 rfl rfl ?_
  refine yr_bipush 273 C (20) dX9_init_271 rfl rfl ?_
  refine yi_ast 274 C hP 4 dX9_init_273 rfl (by unfold vp_in; decide) rfl (fun h hP => ?_)
  refine yr_dup 275 C dX9_init_274 rfl rfl ?_
  refine yr_iconst 276 C (5) dX9_init_275 rfl rfl ?_
  refine yr_bipush 278 C (20) dX9_init_276 rfl rfl ?_
  refine yi_ast 279 C hP 5 dX9_init_278 rfl (by unfold vp_in; decide) rfl (fun h hP => ?_)
  refine yr_dup 280 C dX9_init_279 rfl rfl ?_
  refine yr_bipush 282 C (6) dX9_init_280 rfl rfl ?_
  refine yr_bipush 284 C (20) dX9_init_282 rfl rfl ?_
  refine yi_ast 285 C hP 6 dX9_init_284 rfl (by unfold vp_in; decide) rfl (fun h hP => ?_)
  refine yr_dup 286 C dX9_init_285 rfl rfl ?_
  refine yr_bipush 288 C (7) dX9_init_286 rfl rfl ?_
  refine yr_bipush 290 C (20) dX9_init_288 rfl rfl ?_
  refine yi_ast 291 C hP 7 dX9_init_290 rfl (by unfold vp_in; decide) rfl (fun h hP => ?_)
  refine yi_put 294 C hin hP dX9_init_291 fp_X9_40 (by decide) rfl rfl rfl rfl (by decide) rfl (fun h hP => ?_)
  refine yr_aload_n 295 C dX9_init_294 rfl rfl rfl ?_
  refine yr_bipush 297 C (8) dX9_init_295 rfl rfl ?_
  refine yi_newI 299 C hP 8 dX9_init_297 rfl (by decide) (by decide) (Nat.le_of_ble_eq_true rfl) (Nat.le_of_ble_eq_true rfl) rfl (fun q h hP => ?_)
  refine yr_dup 300 C dX9_init_299 rfl rfl ?_
  refine yr_iconst 301 C (0) dX9_init_300 rfl rfl ?_
  refine yr_iconst 302 C (3) dX9_init_301 rfl rfl ?_
  refine yi_ast 303 C hP 0 dX9_init_302 rfl (by unfold vp_in; decide) rfl (fun h hP => ?_)
  refine yr_dup 304 C dX9_init_303 rfl rfl ?_
  refine yr_iconst 305 C (1) dX9_init_304 rfl rfl ?_
  refine yr_iconst 306 C (3) dX9_init_305 rfl rfl ?_
  refine yi_ast 307 C hP 1 dX9_init_306 rfl (by unfold vp_in; decide) rfl (fun h hP => ?_)
  refine yr_dup 308 C dX9_init_307 rfl rfl ?_
  refine yr_iconst 309 C (2) dX9_init_308 rfl rfl ?_
  refine yr_iconst 310 C (3) dX9_init_309 rfl rfl ?_
  refine yi_ast 311 C hP 2 dX9_init_310 rfl (by unfold vp_in; decide) rfl (fun h hP => ?_)
  refine yr_dup 312 C dX9_init_311 rfl rfl ?_
  refine yr_iconst 313 C (3) dX9_init_312 rfl rfl ?_
  refine yr_iconst 314 C (3) dX9_init_313 rfl rfl ?_
  refine yi_ast 315 C hP 3 dX9_init_314 rfl (by unfold vp_in; decide) rfl (fun h hP => ?_)
  refine yr_dup 316 C dX9_init_315 rfl rfl ?_
  refine yr_iconst 317 C (4) dX9_init_316 rfl rfl ?_
  refine yr_iconst 318 C (3) dX9_init_317 rfl rfl ?_
  refine yi_ast 319 C hP 4 dX9_init_318 rfl (by unfold vp_in; decide) rfl (fun h hP => ?_)
  refine yr_dup 320 C dX9_init_319 rfl rfl ?_
  refine yr_iconst 321 C (5) dX9_init_320 rfl rfl ?_
  refine yr_iconst 322 C (3) dX9_init_321 rfl rfl ?_
  refine yi_ast 323 C hP 5 dX9_init_322 rfl (by unfold vp_in; decide) rfl (fun h hP => ?_)
  refine yr_dup 324 C dX9_init_323 rfl rfl ?_
  refine yr_bipush 326 C (6) dX9_init_324 rfl rfl ?_
  refine yr_iconst 327 C (3) dX9_init_326 rfl rfl ?_
  refine yi_ast 328 C hP 6 dX9_init_327 rfl (by unfold vp_in; decide) rfl (fun h hP => ?_)
  refine yr_dup 329 C dX9_init_328 rfl rfl ?_
  refine yr_bipush 331 C (7) dX9_init_329 rfl rfl ?_
  refine yr_iconst 332 C (3) dX9_init_331 rfl rfl ?_
  refine yi_ast 333 C hP 7 dX9_init_332 rfl (by unfold vp_in; decide) rfl (fun h hP => ?_)
  refine yi_put 336 C hin hP dX9_init_333 fp_X9_43 (by decide) rfl rfl rfl rfl (by decide) rfl (fun h hP => ?_)
  refine yr_aload_n 337 C dX9_init_336 rfl rfl rfl ?_
  refine yr_bipush 339 C (8) dX9_init_337 rfl rfl ?_
  refine yi_newZ 341 C hP 8 dX9_init_339 rfl (by decide) (by decide) (Nat.le_of_ble_eq_true rfl) (Nat.le_of_ble_eq_true rfl) rfl (fun q h hP => ?_)
  refine yi_put 344 C hin hP dX9_init_341 fp_X9_46 (by decide) rfl rfl rfl rfl (by decide) rfl (fun h hP => ?_)
  refine yr_aload_n 345 C dX9_init_344 rfl rfl rfl ?_
  refine yr_bipush 347 C (8) dX9_init_345 rfl rfl ?_
  refine yi_newZ 349 C hP 8 dX9_init_347 rfl (by decide) (by decide) (Nat.le_of_ble_eq_true rfl) (Nat.le_of_ble_eq_true rfl) rfl (fun q h hP => ?_)
  refine yi_put 352 C hin hP dX9_init_349 fp_X9_50 (by decide) rfl rfl rfl rfl (by decide) rfl (fun h hP => ?_)
  refine yr_aload_n 353 C dX9_init_352 rfl rfl rfl ?_
  refine yr_bipush 355 C (64) dX9_init_353 rfl rfl ?_
  refine yi_newI 357 C hP 64 dX9_init_355 rfl (by decide) (by decide) (Nat.le_of_ble_eq_true rfl) (Nat.le_of_ble_eq_true rfl) rfl (fun q h hP => ?_)
  refine yi_put 360 C hin hP dX9_init_357 fp_X9_53 (by decide) rfl rfl rfl rfl (by decide) rfl (fun h hP => ?_)
  refine yr_aload_n 361 C dX9_init_360 rfl rfl rfl ?_
  refine yr_bipush 363 C (24) dX9_init_361 rfl rfl ?_
  refine yi_newI 365 C hP 24 dX9_init_363 rfl (by decide) (by decide) (Nat.le_of_ble_eq_true rfl) (Nat.le_of_ble_eq_true rfl) rfl (fun q h hP => ?_)
  refine yi_put 368 C hin hP dX9_init_365 fp_X9_56 (by decide) rfl rfl rfl rfl (by decide) rfl (fun h hP => ?_)
  refine yr_aload_n 369 C dX9_init_368 rfl rfl rfl ?_
  refine yr_bipush 371 C (12) dX9_init_369 rfl rfl ?_
  refine yi_newI 373 C hP 12 dX9_init_371 rfl (by decide) (by decide) (Nat.le_of_ble_eq_true rfl) (Nat.le_of_ble_eq_true rfl) rfl (fun q h hP => ?_)
  refine yi_put 376 C hin hP dX9_init_373 fp_X9_59 (by decide) rfl rfl rfl rfl (by decide) rfl (fun h hP => ?_)
  refine yr_aload_n 377 C dX9_init_376 rfl rfl rfl ?_
  refine yr_sipush 380 C (2400) dX9_init_377 rfl rfl ?_
  refine yi_newI 382 C hP 2400 dX9_init_380 rfl (by decide) (by decide) (Nat.le_of_ble_eq_true rfl) (Nat.le_of_ble_eq_true rfl) rfl (fun q h hP => ?_)
  refine yi_put 385 C hin hP dX9_init_382 fp_X9_62 (by decide) rfl rfl rfl rfl (by decide) rfl (fun h hP => ?_)
  refine yr_aload_n 386 C dX9_init_385 rfl rfl rfl ?_
  refine yr_sipush 389 C (2400) dX9_init_386 rfl rfl ?_
  refine yi_newI 391 C hP 2400 dX9_init_389 rfl (by decide) (by decide) (Nat.le_of_ble_eq_true rfl) (Nat.le_of_ble_eq_true rfl) rfl (fun q h hP => ?_)
  refine yi_put 394 C hin hP dX9_init_391 fp_X9_65 (by decide) rfl rfl rfl rfl (by decide) rfl (fun h hP => ?_)
  refine yr_aload_n 395 C dX9_init_394 rfl rfl rfl ?_
  refine yr_bipush 397 C (16) dX9_init_395 rfl rfl ?_
  refine yi_newI 399 C hP 16 dX9_init_397 rfl (by decide) (by decide) (Nat.le_of_ble_eq_true rfl) (Nat.le_of_ble_eq_true rfl) rfl (fun q h hP => ?_)
  refine yi_put 402 C hin hP dX9_init_399 fp_X9_68 (by decide) rfl rfl rfl rfl (by decide) rfl (fun h hP => ?_)
  refine yr_aload_n 403 C dX9_init_402 rfl rfl rfl ?_
  refine yr_bipush 405 C (16) dX9_init_403 rfl rfl ?_
  refine yi_newI 407 C hP 16 dX9_init_405 rfl (by decide) (by decide) (Nat.le_of_ble_eq_true rfl) (Nat.le_of_ble_eq_true rfl) rfl (fun q h hP => ?_)
  refine yi_put 410 C hin hP dX9_init_407 fp_X9_71 (by decide) rfl rfl rfl rfl (by decide) rfl (fun h hP => ?_)
  refine yr_aload_n 411 C dX9_init_410 rfl rfl rfl ?_
  refine yr_bipush 413 C (16) dX9_init_411 rfl rfl ?_
  refine yi_newI 415 C hP 16 dX9_init_413 rfl (by decide) (by decide) (Nat.le_of_ble_eq_true rfl) (Nat.le_of_ble_eq_true rfl) rfl (fun q h hP => ?_)
  refine yi_put 418 C hin hP dX9_init_415 fp_X9_74 (by decide) rfl rfl rfl rfl (by decide) rfl (fun h hP => ?_)
  refine yr_aload_n 419 C dX9_init_418 rfl rfl rfl ?_
  refine yr_bipush 421 C (16) dX9_init_419 rfl rfl ?_
  refine yi_newI 423 C hP 16 dX9_init_421 rfl (by decide) (by decide) (Nat.le_of_ble_eq_true rfl) (Nat.le_of_ble_eq_true rfl) rfl (fun q h hP => ?_)
  refine yi_put 426 C hin hP dX9_init_423 fp_X9_77 (by decide) rfl rfl rfl rfl (by decide) rfl (fun h hP => ?_)
  refine yr_aload_n 427 C dX9_init_426 rfl rfl rfl ?_
  refine yr_bipush 429 C (16) dX9_init_427 rfl rfl ?_
  refine yi_newI 431 C hP 16 dX9_init_429 rfl (by decide) (by decide) (Nat.le_of_ble_eq_true rfl) (Nat.le_of_ble_eq_true rfl) rfl (fun q h hP => ?_)
  refine yi_put 434 C hin hP dX9_init_431 fp_X9_80 (by decide) rfl rfl rfl rfl (by decide) rfl (fun h hP => ?_)
  refine yr_aload_n 435 C dX9_init_434 rfl rfl rfl ?_
  refine yr_bipush 437 C (6) dX9_init_435 rfl rfl ?_
  refine yi_newI 439 C hP 6 dX9_init_437 rfl (by decide) (by decide) (Nat.le_of_ble_eq_true rfl) (Nat.le_of_ble_eq_true rfl) rfl (fun q h hP => ?_)
  refine yi_put 442 C hin hP dX9_init_439 fp_X9_83 (by decide) rfl rfl rfl rfl (by decide) rfl (fun h hP => ?_)
  refine yr_aload_n 443 C dX9_init_442 rfl rfl rfl ?_
  refine yr_bipush 445 C (6) dX9_init_443 rfl rfl ?_
  refine yi_newI 447 C hP 6 dX9_init_445 rfl (by decide) (by decide) (Nat.le_of_ble_eq_true rfl) (Nat.le_of_ble_eq_true rfl) rfl (fun q h hP => ?_)
  refine yi_put 450 C hin hP dX9_init_447 fp_X9_86 (by decide) rfl rfl rfl rfl (by decide) rfl (fun h hP => ?_)
  refine yr_aload_n 451 C dX9_init_450 rfl rfl rfl ?_
  refine yr_bipush 453 C (6) dX9_init_451 rfl rfl ?_
  refine yi_newI 455 C hP 6 dX9_init_453 rfl (by decide) (by decide) (Nat.le_of_ble_eq_true rfl) (Nat.le_of_ble_eq_true rfl) rfl (fun q h hP => ?_)
  refine yi_put 458 C hin hP dX9_init_455 fp_X9_89 (by decide) rfl rfl rfl rfl (by decide) rfl (fun h hP => ?_)
  refine yr_aload_n 459 C dX9_init_458 rfl rfl rfl ?_
  refine yr_bipush 461 C (6) dX9_init_459 rfl rfl ?_
  refine yi_newI 463 C hP 6 dX9_init_461 rfl (by decide) (by decide) (Nat.le_of_ble_eq_true rfl) (Nat.le_of_ble_eq_true rfl) rfl (fun q h hP => ?_)
  refine yi_put 466 C hin hP dX9_init_463 fp_X9_92 (by decide) rfl rfl rfl rfl (by decide) rfl (fun h hP => ?_)
  refine yr_aload_n 467 C dX9_init_466 rfl rfl rfl ?_
  refine yr_bipush 469 C (-5) dX9_init_467 rfl rfl ?_
  refine yi_puts 472 C hP dX9_init_469 fp_X9_95 (by decide) rfl rfl (by decide) rfl (fun h hP => ?_)
  refine yr_aload_n 473 C dX9_init_472 rfl rfl rfl ?_
  refine yr_iconst 474 C (-1) dX9_init_473 rfl rfl ?_
  refine yi_puts 477 C hP dX9_init_474 fp_X9_99 (by decide) rfl rfl (by decide) rfl (fun h hP => ?_)
  refine yr_aload_n 478 C dX9_init_477 rfl rfl rfl ?_
  refine yr_bipush 480 C (-5) dX9_init_478 rfl rfl ?_
  refine yi_puts 483 C hP dX9_init_480 fp_X9_102 (by decide) rfl rfl (by decide) rfl (fun h hP => ?_)
  refine yr_aload_n 484 C dX9_init_483 rfl rfl rfl ?_
  refine yr_bipush 486 C (-5) dX9_init_484 rfl rfl ?_
  refine yi_puts 489 C hP dX9_init_486 fp_X9_105 (by decide) rfl rfl (by decide) rfl (fun h hP => ?_)
  refine yr_aload_n 490 C dX9_init_489 rfl rfl rfl ?_
  refine yr_iconst 491 C (5) dX9_init_490 rfl rfl ?_
  refine yi_newI 493 C hP 5 dX9_init_491 rfl (by decide) (by decide) (Nat.le_of_ble_eq_true rfl) (Nat.le_of_ble_eq_true rfl) rfl (fun q h hP => ?_)
  refine yi_put 496 C hin hP dX9_init_493 fp_X9_108 (by decide) rfl rfl rfl rfl (by decide) rfl (fun h hP => ?_)
  refine yr_aload_n 497 C dX9_init_496 rfl rfl rfl ?_
  refine yr_bipush 499 C (-5) dX9_init_497 rfl rfl ?_
  refine yi_puts 502 C hP dX9_init_499 fp_X9_111 (by decide) rfl rfl (by decide) rfl (fun h hP => ?_)
  refine yr_aload_n 503 C dX9_init_502 rfl rfl rfl ?_
  refine yr_sipush 506 C (488) dX9_init_503 rfl rfl ?_
  refine yi_newI 508 C hP 488 dX9_init_506 rfl (by decide) (by decide) (Nat.le_of_ble_eq_true rfl) (Nat.le_of_ble_eq_true rfl) rfl (fun q h hP => ?_)
  refine yi_put 511 C hin hP dX9_init_508 fp_X9_114 (by decide) rfl rfl rfl rfl (by decide) rfl (fun h hP => ?_)
  refine yr_aload_n 512 C dX9_init_511 rfl rfl rfl ?_
  refine yr_iconst 513 C (4) dX9_init_512 rfl rfl ?_
  refine yi_newI 515 C hP 4 dX9_init_513 rfl (by decide) (by decide) (Nat.le_of_ble_eq_true rfl) (Nat.le_of_ble_eq_true rfl) rfl (fun q h hP => ?_)
  refine yi_put 518 C hin hP dX9_init_515 fp_X9_117 (by decide) rfl rfl rfl rfl (by decide) rfl (fun h hP => ?_)
  refine yr_vret C dX9_init_518 hr (Nat.le_of_ble_eq_true rfl) (Nat.le_of_ble_eq_true rfl) ?_
  exact ⟨rfl, _, yMP_end hP (by decide +kernel)⟩
end MI2
