/-! a layer of my own over the kit: the world is a partial map of cells, the locals are an explicit list -/
abbrev yH : Type := Nat → Option va_E
def yd_at (D : va_G) (h : yH) (A : Nat → Prop) (H : Heap) : Prop :=
  ∃ (L : List Nat) (g : Nat → va_E), (∀ (a : Nat) (e : va_E), h a = some e ↔ (a ∈ L ∧ g a = e)) ∧ va_P D vwCl (va_pl L g) H ∧ va_D A (va_pl L g)
theorem yd_pos {D : va_G} {h : yH} {A : Nat → Prop} {H : Heap} {a : Nat} {e : va_E} (hw : yd_at D h A H) (ha : h a = some e) :
    ∃ (ws : va_W) (k : Nat), va_P D vwCl ws H ∧ va_D A ws ∧ ws[k]? = some (a, e) ∧ (∀ (e' : va_E) (H1 : Heap), va_P D vwCl (ws.set k (a, e')) H1 → va_D A (ws.set k (a, e')) → yd_at D (va_up h a (some e')) A H1) ∧ (∀ (b : Nat) (e' : va_E), h b = some e' → ∃ j : Nat, ws[j]? = some (b, e')) := by
  obtain ⟨L, g, hg, hP, hD⟩ := hw
  obtain ⟨hL, he⟩ := (hg a e).mp ha
  obtain ⟨k, hk⟩ := va_pl_get (X := []) (f := g) hL
  rw [List.nil_append] at hk
  refine ⟨va_pl L g, k, hP, hD, by rw [hk, he], fun e' H1 hP1 hD1 => ?_, fun b e' hb => ?_⟩
  · have hs : (va_pl L g).set k (a, e') = va_pl L (va_up g a e') := by
      have q := va_pl_set (X := []) (f := g) (e := e') (k := k) (a := a) (A := A) (by rw [List.nil_append]; exact hD) hL (by rw [List.nil_append]; exact hk)
      rwa [List.nil_append, List.nil_append] at q
    rw [hs] at hP1 hD1
    refine ⟨L, va_up g a e', fun b x => ?_, hP1, hD1⟩
    by_cases hb : b = a
    · subst hb
      simp [va_up, hL]
    · simp only [va_up, if_neg hb]
      exact hg b x
  · obtain ⟨hbL, hbe⟩ := (hg b e').mp hb
    obtain ⟨j, hj⟩ := va_pl_get (X := []) (f := g) hbL
    rw [List.nil_append] at hj
    exact ⟨j, by rw [hj, hbe]⟩
theorem yd_list {D : va_G} {h : yH} {A : Nat → Prop} {H : Heap} (hw : yd_at D h A H) :
    ∃ ws : va_W, va_P D vwCl ws H ∧ va_D A ws ∧ ∀ (q : Nat) (e : va_E) (H1 : Heap), va_P D vwCl (ws ++ [(q, e)]) H1 → va_D A (ws ++ [(q, e)]) → h q = none ∧ yd_at D (va_up h q (some e)) A H1 := by
  obtain ⟨L, g, hg, hP, hD⟩ := hw
  refine ⟨va_pl L g, hP, hD, fun q e H1 hP1 hD1 => ?_⟩
  have hq : q ∉ L := va_pl_fresh2 (X := []) (f := g) (e := e) (A := A) (by rw [List.nil_append]; exact hD1)
  rw [va_pl_push hq] at hP1 hD1
  refine ⟨?_, L ++ [q], va_up g q e, fun b x => ?_, hP1, hD1⟩
  · cases hh : h q with
    | none => rfl
    | some x => exact absurd ((hg q x).mp hh).1 hq
  · by_cases hb : b = q
    · subst hb
      simp [va_up]
    · simp only [va_up, if_neg hb, List.mem_append, List.mem_singleton, hb, or_false]
      exact hg b x
theorem yd_pl {L : List Nat} {g : Nat → va_E} {k : Nat} {q : Nat × va_E} (h : (va_pl L g)[k]? = some q) : q.1 ∈ L ∧ q.2 = g q.1 := by
  unfold va_pl at h
  rw [List.getElem?_map] at h
  cases hx : L[k]? with
  | none => rw [hx] at h; cases h
  | some a =>
    rw [hx] at h
    simp only [Option.map_some, Option.some.injEq] at h
    subst h
    exact ⟨List.mem_of_getElem? hx, rfl⟩
theorem yd_weak {D : va_G} {h : yH} {A B : Nat → Prop} {H : Heap} (hw : yd_at D h A H) (hAB : ∀ (a : Nat) (e : va_E), h a = some e → A a → B a) : yd_at D h B H := by
  obtain ⟨L, g, hg, hP, hD⟩ := hw
  exact ⟨L, g, hg, hP, hD.weaken (fun k q hk hA => hAB q.1 (g q.1) ((hg _ _).mpr ⟨(yd_pl hk).1, rfl⟩) hA)⟩
theorem yd_kept {D : va_G} {h : yH} {A : Nat → Prop} {H H1 : Heap} (hw : yd_at D h A H) (hk : ∀ (a : Nat) (e : va_E), h a = some e → H1[a]? = H[a]?) : yd_at D h A H1 := by
  obtain ⟨L, g, hg, hP, hD⟩ := hw
  exact ⟨L, g, hg, hP.kept (fun k q hq => hk q.1 (g q.1) ((hg _ _).mpr ⟨(yd_pl hq).1, rfl⟩)), hD⟩
theorem yd_in {D : va_G} {h : yH} {A : Nat → Prop} {H : Heap} (hw : yd_at D h A H) {a : Nat} {e : va_E} (ha : h a = some e) : A a ∧ a < H.size := by
  obtain ⟨ws, k, hP, hD, hk, -⟩ := yd_pos hw ha
  exact ⟨hD.2 k _ hk, va_at.lt (hP k _ hk)⟩
/-- two worlds side by side -/
theorem yd_join {D : va_G} {h1 h2 : yH} {A : Nat → Prop} {H : Heap} (w1 : yd_at D h1 A H) (w2 : yd_at D h2 A H) (hd : ∀ (a : Nat) (e e' : va_E), h1 a = some e → h2 a = some e' → False) : yd_at D (fun a => (h1 a).or (h2 a)) A H := by
  obtain ⟨L1, g1, hg1, hP1, hD1⟩ := w1
  obtain ⟨L2, g2, hg2, hP2, hD2⟩ := w2
  have hx : ∀ a, a ∈ L1 → a ∈ L2 → False := fun a p q => hd a _ _ ((hg1 a _).mpr ⟨p, rfl⟩) ((hg2 a _).mpr ⟨q, rfl⟩)
  have e1 : va_pl L1 (fun a => if a ∈ L1 then g1 a else g2 a) = va_pl L1 g1 := by
    unfold va_pl
    exact List.map_congr_left (fun a ha => by show (a, if a ∈ L1 then g1 a else g2 a) = _; rw [if_pos ha])
  have e2 : va_pl L2 (fun a => if a ∈ L1 then g1 a else g2 a) = va_pl L2 g2 := by
    unfold va_pl
    exact List.map_congr_left (fun a ha => by show (a, if a ∈ L1 then g1 a else g2 a) = _; rw [if_neg (fun q => hx a q ha)])
  have e3 : va_pl (L1 ++ L2) (fun a => if a ∈ L1 then g1 a else g2 a) = va_pl L1 g1 ++ va_pl L2 g2 := by
    rw [← e1, ← e2]
    unfold va_pl
    exact List.map_append
  refine ⟨L1 ++ L2, fun a => if a ∈ L1 then g1 a else g2 a, fun a e => ?_, ?_, ?_⟩
  · by_cases ha : a ∈ L1
    · have q1 : h1 a = some (g1 a) := (hg1 a _).mpr ⟨ha, rfl⟩
      simp [q1, ha]
    · have q1 : h1 a = none := by
        cases hh : h1 a with
        | none => rfl
        | some x => exact absurd ((hg1 a x).mp hh).1 ha
      simp only [q1, Option.none_or, if_neg ha, List.mem_append, ha, false_or]
      exact hg2 a e
  · rw [e3]
    exact hP1.app hP2
  · rw [e3]
    exact hD1.app hD2 (fun i j p q hp hq hpq => hx p.1 (yd_pl hp).1 (by rw [hpq]; exact (yd_pl hq).1))
/-- a part of a world -/
theorem yd_sub {D : va_G} {h h1 : yH} {A : Nat → Prop} {H : Heap} (w : yd_at D h A H) (hs : ∀ (a : Nat) (e : va_E), h1 a = some e → h a = some e) : yd_at D h1 A H := by
  obtain ⟨L, g, hg, hP, hD⟩ := w
  have sub : ∀ (M : List Nat), (∀ a, a ∈ M → a ∈ L) → va_P D vwCl (va_pl M g) H := fun M hM k q hk => by
    obtain ⟨p1, p2⟩ := yd_pl hk
    obtain ⟨j, hj⟩ := va_pl_get (X := []) (f := g) (hM _ p1)
    rw [List.nil_append] at hj
    have := hP j _ hj
    rwa [← p2] at this
  have subD : ∀ (f : Nat → Bool), va_D A (va_pl (L.filter f) g) := fun f => by
    have hsl : List.Sublist (va_pl (L.filter f) g) (va_pl L g) := by
      unfold va_pl
      exact List.Sublist.map _ List.filter_sublist
    have hnd : L.Pairwise (fun a b => a ≠ b) := by
      rw [List.pairwise_iff_getElem]
      intro i j hi hj hij e
      have q1 : (va_pl L g)[i]? = some (L[i], g L[i]) := by unfold va_pl; rw [List.getElem?_map, List.getElem?_eq_getElem hi]; rfl
      have q2 : (va_pl L g)[j]? = some (L[i], g L[i]) := by unfold va_pl; rw [List.getElem?_map, List.getElem?_eq_getElem hj, ← e]; rfl
      have := hD.1 i j _ _ q1 q2 rfl
      omega
    have hnd2 : (L.filter f).Pairwise (fun a b => a ≠ b) := List.Pairwise.filter _ hnd
    refine ⟨fun i j p q hp hq hpq => ?_, fun k q hk => ?_⟩
    · have g1 : (L.filter f)[i]? = some p.1 := by
        unfold va_pl at hp
        rw [List.getElem?_map] at hp
        cases hx : (L.filter f)[i]? with
        | none => rw [hx] at hp; cases hp
        | some a => rw [hx] at hp; simp only [Option.map_some, Option.some.injEq] at hp; rw [← hp]
      have g2 : (L.filter f)[j]? = some q.1 := by
        unfold va_pl at hq
        rw [List.getElem?_map] at hq
        cases hx : (L.filter f)[j]? with
        | none => rw [hx] at hq; cases hq
        | some a => rw [hx] at hq; simp only [Option.map_some, Option.some.injEq] at hq; rw [← hq]
      by_cases hij : i = j
      · exact hij
      · exfalso
        rw [List.pairwise_iff_getElem] at hnd2
        obtain ⟨l1, m1⟩ := List.getElem?_eq_some_iff.mp g1
        obtain ⟨l2, m2⟩ := List.getElem?_eq_some_iff.mp g2
        rcases Nat.lt_or_ge i j with c | c
        · exact hnd2 i j l1 l2 c (by rw [m1, m2, hpq])
        · exact hnd2 j i l2 l1 (by omega) (by rw [m1, m2, hpq])
    · obtain ⟨j, hj⟩ := List.getElem?_of_mem (hsl.subset (List.mem_of_getElem? hk))
      exact hD.2 j q hj
  refine ⟨L.filter (fun a => (h1 a).isSome), g, fun a e => ?_, sub _ (fun a ha => (List.mem_filter.mp ha).1), subD _⟩
  rw [List.mem_filter]
  constructor
  · intro ha
    obtain ⟨p1, p2⟩ := (hg a e).mp (hs a e ha)
    exact ⟨⟨p1, by simp [ha]⟩, p2⟩
  · rintro ⟨⟨p1, p2⟩, p3⟩
    cases hh : h1 a with
    | none => simp [hh] at p2
    | some x =>
      have := ((hg a x).mp (hs a x hh)).2
      rw [← p3, this]

/-- the locals: their size, and what stands at the places that are told; only values of one word -/
def yd_lv (ls : Array Slot) (nL : Nat) (lv : List (Option Value)) : Prop := ∃ lw : List (Nat × Value), lv_has ls nL lw ∧ ∀ (i : Nat) (v : Value), lv[i]? = some (some v) → (i, v) ∈ lw ∧ v.category = 1
theorem yd_lvat {ls : Array Slot} {nL : Nat} {lv : List (Option Value)} (h : yd_lv ls nL lv) {i : Nat} {v : Value} (hi : lv[i]? = some (some v)) : ls[i]? = some (.val v) := by
  obtain ⟨lw, h1, h2⟩ := h
  exact h1.2.2 (i, v) (h2 i v hi).1
theorem yd_lvset {ls : Array Slot} {nL : Nat} {lv : List (Option Value)} {lw : List (Nat × Value)} {i : Nat} {v : Value} (hc : v.category = 1) (h2 : ∀ (i : Nat) (v : Value), lv[i]? = some (some v) → (i, v) ∈ lw ∧ v.category = 1)
    (h1 : lv_has ls nL ((i, v) :: lw.filter (fun q => !(q.1 == i) && !(q.1 + 1 == i && q.2.category == 2)))) : yd_lv ls nL (lv.set i (some v)) := by
  refine ⟨_, h1, fun j u hj => ?_⟩
  by_cases e : i = j
  · subst e
    by_cases hl : i < lv.length
    · rw [List.getElem?_set_self hl] at hj
      cases hj
      exact ⟨List.mem_cons_self, hc⟩
    · rw [List.set_eq_of_length_le (by omega)] at hj
      rw [List.getElem?_eq_none (by omega)] at hj
      cases hj
  · rw [List.getElem?_set_ne e] at hj
    obtain ⟨p1, p2⟩ := h2 j u hj
    refine ⟨List.mem_cons_of_mem _ (List.mem_filter.mpr ⟨p1, ?_⟩), p2⟩
    have e' : (j == i) = false := by simp; exact fun q => e q.symm
    simp [e', p2]
def yd_isref : Value → Bool
  | .ref _ => true
  | .null => true
  | _ => false
theorem yd_isref_or {v : Value} (h : yd_isref v = true) : v = .null ∨ ∃ a, v = .ref a := by
  cases v with
  | ref a => exact Or.inr ⟨a, rfl⟩
  | null => exact Or.inl rfl
  | _ => cases h
theorem yd_isref_rf (r : Option Nat) : yd_isref (va_rf r) = true := by cases r <;> rfl
/-- the room of a method of depth k that makes at most mc cells of ms slots -/
abbrev yR (k mc ms : Nat) : Room := { frames := k, cells := mc, slots := ms, locals := 40 * k }
abbrev yT (dA : Nat → ClassId) : List (ClassId × FieldType) := [(dA 0, .int), (dA 1, .byte), (dA 2, .short), (dA 3, .boolean), (dA 4, .object "CrossingKeeper$Phase"), (dA 5, .object "java/lang/Object")]
/-- what a method may write: the cells of its world, and what is new -/
def yA (h : yH) (sz : Nat) : Nat → Prop := fun q => (∃ e, h q = some e) ∨ sz ≤ q
/-- what else holds of the start (Z), and that it goes on to hold -/
def yZok (D : va_G) (dA : Nat → ClassId) (Z : (Nat → Prop) → State → Prop) : Prop :=
  (∀ (A : Nat → Prop) (U : State), Z A U → va_K D vwCl (yT dA) U) ∧
  (∀ (A : Nat → Prop) (u U : State), u.vm = U.vm → u.heap = U.heap → Z A u → Z A U) ∧
  (∀ (A B : Nat → Prop) (u U : State), u.WarmedH U.vm → (∀ q : Nat, q < u.heap.size → ¬ A q → U.heap[q]? = u.heap[q]?) → (∀ q : Nat, q < u.heap.size → B q → A q) → Z A u → Z B U)
/-- what holds all along a method's body -/
def yC (Z : (Nat → Prop) → State → Prop) (D : va_G) (dA : Nat → ClassId) (p : Program) (s : State) (m : MethodId) (args : Array Value) (meth : Method) (c : Code) (cc : ByteArray) (nL : Nat) (own : String) (A : Nat → Prop) : Prop :=
  p.tables.exec = Jvm.exec ∧ c.code = cc ∧ c.maxLocals = nL ∧ s.vm.findClass own = some m.cls ∧ (∀ w ∈ yTs, w.before args s = true) ∧ va_K D vwCl (yT dA) s ∧ meth.locks = false ∧ (∀ q, s.heap.size ≤ q → A q) ∧ Z A s ∧ yZok D dA Z
/-- the walk: from here, with these locals, this stack and this world, the machine comes to Q -/
def yW (p : Program) (l : Launch) (e : Env) (R : Room) (s : State) (m : MethodId) (args : Array Value) (below : List Frame) (meth : Method) (c : Code) (nL : Nat) (D : va_G) (A : Nat → Prop) (cells slots : Nat) (Q : State → Prop) (pc : Nat) (lv : List (Option Value)) (st : List Value) (h : yH) : Prop :=
  ∀ (H : Heap) (locs : List Loc) (ls : Array Slot), yd_lv ls nL lv → yd_at D h A H → va_S A s.heap H locs → W p l e R s m args below meth c H locs cells slots Q (F0 m pc ls st)
def yQc (D : va_G) (A : Nat → Prop) (Q : Option Value → yH → Prop) : Array Value → State → Outcome → State → Prop := fun _ s0 oc t => (∃ (r : Option Value) (h' : yH), oc = .returned r ∧ Q r h' ∧ yd_at D h' A t.heap) ∧ va_F A s0 t
/-- the end of a method's body -/
abbrev yF (D : va_G) (A : Nat → Prop) (Q : Option Value → yH → Prop) (below : List Frame) (args : Array Value) (s : State) (mc ms : Nat) : State → Prop := MQ below (yQc D A Q) args s mc ms A
/-- a contract -/
def yM (Z : (Nat → Prop) → State → Prop) (D : va_G) (y : MethodName) (cc : ByteArray) (nL : Nat) (ret : Option FieldType) (k mc ms : Nat) (As : List Value) (h : yH) (Q : Option Value → yH → Prop) : Prop :=
  ∀ (l : Launch) (sz : Nat), Met l y (Cond.code y cc nL ret :: yTs) (yR k mc ms) (va_Pc As (fun U => U.heap.size = sz ∧ yd_at D h (fun _ => True) U.heap ∧ Z (yA h sz) U)) (yQc D (yA h sz) Q) mc ms (yA h sz)
theorem yM_mono {Z : (Nat → Prop) → State → Prop} {D : va_G} {y : MethodName} {cc : ByteArray} {nL : Nat} {ret : Option FieldType} {k mc ms : Nat} {As : List Value} {h : yH} {Q Q' : Option Value → yH → Prop} (hM : yM Z D y cc nL ret k mc ms As h Q) (hq : ∀ r h', Q r h' → Q' r h') : yM Z D y cc nL ret k mc ms As h Q' := by
  intro l sz p e a1 a2 a3 s m args below hf happ hP hK
  obtain ⟨k, o, b1, b2, b3, ⟨⟨r, h', c1, c2, c3⟩, c4⟩, c5⟩ := hM l sz p e a1 a2 a3 s m args below hf happ hP hK
  exact ⟨k, o, b1, b2, b3, ⟨⟨r, h', c1, hq r h' c2, c3⟩, c4⟩, c5⟩
theorem yM_of {Z : (Nat → Prop) → State → Prop} {D : va_G} {dA : Nat → ClassId} (hZ : yZok D dA Z) {y : MethodName} {cc : ByteArray} {nL : Nat} {ret : Option FieldType} {k mc ms : Nat} {As : List Value} {h : yH} {Q : Option Value → yH → Prop} (hy : plainName y.cls = true) (hA : As.all (fun v => v.category == 1) = true) (hn : As.length ≤ nL)
    (body : ∀ (p : Program) (l : Launch) (e : Env) (s : State) (m : MethodId) (args : Array Value) (below : List Frame) (meth : Method) (c : Code) (A : Nat → Prop), yC Z D dA p s m args meth c cc nL y.cls A → meth.sig.returnType = ret → meth.name = y.name →
      yW p l e (yR k mc ms) s m args below meth c nL D A 0 0 (yF D A Q below args s mc ms) 0 (As.map some ++ List.replicate (nL - As.length) none) [] h) : yM Z D y cc nL ret k mc ms As h Q := by
  intro l sz
  refine Met.ofW (cc := cc) (maxL := nL) (ret := ret) hy rfl ?_
  intro p e s m args below meth c s₁ B hml hv
  obtain ⟨rfl, hsz, hw, hz⟩ := hv
  subst hsz
  have hts := atoms_spec (ws := Cond.code y cc nL ret :: yTs) B.pre
  have C : yC Z D dA p s m As.toArray meth c cc nL y.cls (yA h s.heap.size) := ⟨B.exec, B.bytes, hml, findClass_of_methodNamed B.named, fun w hw => hts w (List.mem_cons_of_mem _ hw), hZ.1 _ _ hz, B.notSynchronized, fun q hq => Or.inr hq, hz, hZ⟩
  have hsl : ∀ (vs : List Value), vs.all (fun v => v.category == 1) = true → (lg_sl vs).length = vs.length := by
    intro vs
    induction vs with
    | nil => intro _; rfl
    | cons v vs ih =>
      intro hv
      simp only [List.all_cons, Bool.and_eq_true, beq_iff_eq] at hv
      have q := ih hv.2
      have e : lg_sl (v :: vs) = Slot.val v :: lg_sl vs := by simp [lg_sl, hv.1]
      rw [e, List.length_cons, q, List.length_cons]
  have hargs : ∀ (vs : List Value) (i : Nat), vs.all (fun v => v.category == 1) = true → ∀ (j : Nat) (v : Value), vs[j]? = some v → (i + j, v) ∈ lv_args i vs ∧ v.category = 1 := by
    intro vs
    induction vs with
    | nil => intro i _ j v hj; cases hj
    | cons u vs ih =>
      intro i hv j v hj
      simp only [List.all_cons, Bool.and_eq_true, beq_iff_eq] at hv
      cases j with
      | zero =>
        rw [List.getElem?_cons_zero] at hj
        cases hj
        exact ⟨by unfold lv_args; exact List.mem_cons_self, hv.1⟩
      | succ j =>
        rw [List.getElem?_cons_succ] at hj
        obtain ⟨q1, q2⟩ := ih (i + 1) hv.2 j v hj
        refine ⟨?_, q2⟩
        unfold lv_args
        rw [if_neg (by rw [hv.1]; decide)]
        have e : i + (j + 1) = i + 1 + j := by omega
        rw [e]
        exact List.mem_cons_of_mem _ q1
  have hl := lv_entry As (n := nL) (by rw [hsl As hA]; exact hn)
  rw [lg_entry_eq]
  refine body p l e s m As.toArray below meth c (yA h s.heap.size) C B.returns (name_of_methodNamed B.named B.method).1 s.heap [] _ ⟨_, hl, fun i v hi => ?_⟩ (yd_weak hw (fun a e he _ => Or.inl ⟨e, he⟩)) va_S.rf
  by_cases hi2 : i < (As.map some).length
  · rw [List.getElem?_append_left hi2, List.getElem?_map] at hi
    cases hx : As[i]? with
    | none => rw [hx] at hi; cases hi
    | some u =>
      rw [hx] at hi
      simp only [Option.map_some, Option.some.injEq] at hi
      subst hi
      have := hargs As 0 hA i u hx
      rwa [Nat.zero_add] at this
  · rw [List.getElem?_append_right (by omega)] at hi
    have := List.mem_of_getElem? hi
    simp at this

section Rows1
variable {Z : (Nat → Prop) → State → Prop} {D : va_G} {dA : Nat → ClassId} {p : Program} {l : Launch} {e : Env} {R : Room} {s : State} {m : MethodId} {args : Array Value} {below : List Frame} {meth : Method} {c : Code} {cc : ByteArray} {nL : Nat} {own : String} {A : Nat → Prop} {cells slots : Nat} {Q : State → Prop} {pc : Nat} {lv : List (Option Value)} {st : List Value} {h : yH}
theorem yr_iconst (pc2 : Nat) (C : yC Z D dA p s m args meth c cc nL own A) {n : Int} (v : Int32) (d : decode cc pc = .ok (.iconst n, 1)) (hv : Int32.ofInt n = v) (hp : pc + 1 = pc2) (k : yW p l e R s m args below meth c nL D A cells slots Q pc2 lv (.int v :: st) (h)) : yW p l e R s m args below meth c nL D A cells slots Q pc lv (st) (h) := fun H locs ls a b w => by
  subst hp
  exact lv_iconst C.1 C.2.1 d hv (k H locs ls a b w)
theorem yr_bipush (pc2 : Nat) (C : yC Z D dA p s m args meth c cc nL own A) {n : Int} (v : Int32) (d : decode cc pc = .ok (.bipush n, 2)) (hv : (Int8.ofInt n).toInt32 = v) (hp : pc + 2 = pc2) (k : yW p l e R s m args below meth c nL D A cells slots Q pc2 lv (.int v :: st) (h)) : yW p l e R s m args below meth c nL D A cells slots Q pc lv (st) (h) := fun H locs ls a b w => by
  subst hp
  exact lv_bipush C.1 C.2.1 d hv (k H locs ls a b w)
theorem yr_sipush (pc2 : Nat) (C : yC Z D dA p s m args meth c cc nL own A) {n : Int} (v : Int32) (d : decode cc pc = .ok (.sipush n, 3)) (hv : (Int16.ofInt n).toInt32 = v) (hp : pc + 3 = pc2) (k : yW p l e R s m args below meth c nL D A cells slots Q pc2 lv (.int v :: st) (h)) : yW p l e R s m args below meth c nL D A cells slots Q pc lv (st) (h) := fun H locs ls a b w => by
  subst hp
  exact lv_sipush C.1 C.2.1 d hv (k H locs ls a b w)
theorem yr_null (pc2 : Nat) (C : yC Z D dA p s m args meth c cc nL own A)  (d : decode cc pc = .ok (.aconst_null, 1)) (hp : pc + 1 = pc2) (k : yW p l e R s m args below meth c nL D A cells slots Q pc2 lv (.null :: st) (h)) : yW p l e R s m args below meth c nL D A cells slots Q pc lv (st) (h) := fun H locs ls a b w => by
  subst hp
  exact lv_null C.1 C.2.1 d (k H locs ls a b w)
theorem yr_iload_n (pc2 : Nat) (C : yC Z D dA p s m args meth c cc nL own A) {i : Fin 4} {x : Int32} (d : decode cc pc = .ok (.iload_n i, 1)) (hl : lv[(i : Nat)]? = some (some (.int x))) (hp : pc + 1 = pc2) (k : yW p l e R s m args below meth c nL D A cells slots Q pc2 lv (.int x :: st) (h)) : yW p l e R s m args below meth c nL D A cells slots Q pc lv (st) (h) := fun H locs ls a b w => by
  subst hp
  exact lv_iload_n C.1 C.2.1 d rfl (yd_lvat a hl) (k H locs ls a b w)
theorem yr_iload (pc2 : Nat) (C : yC Z D dA p s m args meth c cc nL own A) {i : Nat} {x : Int32} (d : decode cc pc = .ok (.iload i, 2)) (hl : lv[i]? = some (some (.int x))) (hp : pc + 2 = pc2) (k : yW p l e R s m args below meth c nL D A cells slots Q pc2 lv (.int x :: st) (h)) : yW p l e R s m args below meth c nL D A cells slots Q pc lv (st) (h) := fun H locs ls a b w => by
  subst hp
  exact lv_iload C.1 C.2.1 d (yd_lvat a hl) (k H locs ls a b w)
theorem yr_aload_n (pc2 : Nat) (C : yC Z D dA p s m args meth c cc nL own A) {i : Fin 4} {v : Value} (d : decode cc pc = .ok (.aload_n i, 1)) (hl : lv[(i : Nat)]? = some (some v)) (hv : yd_isref v = true) (hp : pc + 1 = pc2) (k : yW p l e R s m args below meth c nL D A cells slots Q pc2 lv (v :: st) (h)) : yW p l e R s m args below meth c nL D A cells slots Q pc lv (st) (h) := fun H locs ls a b w => by
  subst hp
  rcases yd_isref_or hv with rfl | ⟨x, rfl⟩
  · exact lv_aload_nN C.1 C.2.1 d rfl (yd_lvat a hl) (k H locs ls a b w)
  · exact lv_aload_n C.1 C.2.1 d rfl (yd_lvat a hl) (k H locs ls a b w)
theorem yr_aload (pc2 : Nat) (C : yC Z D dA p s m args meth c cc nL own A) {i : Nat} {v : Value} (d : decode cc pc = .ok (.aload i, 2)) (hl : lv[i]? = some (some v)) (hv : yd_isref v = true) (hp : pc + 2 = pc2) (k : yW p l e R s m args below meth c nL D A cells slots Q pc2 lv (v :: st) (h)) : yW p l e R s m args below meth c nL D A cells slots Q pc lv (st) (h) := fun H locs ls a b w => by
  subst hp
  rcases yd_isref_or hv with rfl | ⟨x, rfl⟩
  · exact lv_aloadN C.1 C.2.1 d (yd_lvat a hl) (k H locs ls a b w)
  · exact lv_aload C.1 C.2.1 d (yd_lvat a hl) (k H locs ls a b w)
theorem yr_istore0 (pc2 : Nat) (C : yC Z D dA p s m args meth c cc nL own A) {x : Int32} {b0 : Option Value} {r : List (Option Value)} (d : decode cc pc = .ok (.istore_n 0, 1)) (hn : 0 < nL) (hp : pc + 1 = pc2) (k : yW p l e R s m args below meth c nL D A cells slots Q pc2 (some (.int x) :: r) (st) (h)) : yW p l e R s m args below meth c nL D A cells slots Q pc (b0 :: r) (.int x :: st) (h) := fun H locs ls a b w => by
  subst hp
  obtain ⟨lw, a1, a2⟩ := a
  exact lv_istore_n C.1 C.2.1 d rfl a1 hn rfl (fun ls' hl' => k H locs ls' (yd_lvset (lv := b0 :: r) (i := 0) rfl a2 hl') b w)
theorem yr_astore0 (pc2 : Nat) (C : yC Z D dA p s m args meth c cc nL own A) {v : Value} {b0 : Option Value} {r : List (Option Value)} (d : decode cc pc = .ok (.astore_n 0, 1)) (hv : yd_isref v = true) (hn : 0 < nL) (hp : pc + 1 = pc2) (k : yW p l e R s m args below meth c nL D A cells slots Q pc2 (some v :: r) (st) (h)) : yW p l e R s m args below meth c nL D A cells slots Q pc (b0 :: r) (v :: st) (h) := fun H locs ls a b w => by
  subst hp
  obtain ⟨lw, a1, a2⟩ := a
  rcases yd_isref_or hv with rfl | ⟨x, rfl⟩
  · exact lv_astore_nN C.1 C.2.1 d rfl a1 hn rfl (fun ls' hl' => k H locs ls' (yd_lvset (lv := b0 :: r) (i := 0) rfl a2 hl') b w)
  · exact lv_astore_n C.1 C.2.1 d rfl a1 hn rfl (fun ls' hl' => k H locs ls' (yd_lvset (lv := b0 :: r) (i := 0) rfl a2 hl') b w)
theorem yr_iinc0 (pc2 : Nat) (C : yC Z D dA p s m args meth c cc nL own A) {x : Int32} (z : Int32) {n : Int} {q0 : Unit} {r : List (Option Value)} (d : decode cc pc = .ok (.iinc 0 n, 3)) (hz : Int32.ofInt n = z) (hn : 0 < nL) (hp : pc + 3 = pc2) (k : yW p l e R s m args below meth c nL D A cells slots Q pc2 (some (.int (x + z)) :: r) (st) (h)) : yW p l e R s m args below meth c nL D A cells slots Q pc (some (.int x) :: r) (st) (h) := fun H locs ls a b w => by
  subst hp hz
  obtain ⟨lw, a1, a2⟩ := a
  obtain ⟨j, hj⟩ := List.getElem?_of_mem (a2 0 (.int x) rfl).1
  exact lv_iinc C.1 C.2.1 d a1 hj rfl hn rfl (fun ls' hl' => k H locs ls' (yd_lvset (lv := some (.int x) :: r) (i := 0) rfl a2 hl') b w)
theorem yr_istore1 (pc2 : Nat) (C : yC Z D dA p s m args meth c cc nL own A) {x : Int32} {b0 b1 : Option Value} {r : List (Option Value)} (d : decode cc pc = .ok (.istore_n 1, 1)) (hn : 1 < nL) (hp : pc + 1 = pc2) (k : yW p l e R s m args below meth c nL D A cells slots Q pc2 (b0 :: some (.int x) :: r) (st) (h)) : yW p l e R s m args below meth c nL D A cells slots Q pc (b0 :: b1 :: r) (.int x :: st) (h) := fun H locs ls a b w => by
  subst hp
  obtain ⟨lw, a1, a2⟩ := a
  exact lv_istore_n C.1 C.2.1 d rfl a1 hn rfl (fun ls' hl' => k H locs ls' (yd_lvset (lv := b0 :: b1 :: r) (i := 1) rfl a2 hl') b w)
theorem yr_astore1 (pc2 : Nat) (C : yC Z D dA p s m args meth c cc nL own A) {v : Value} {b0 b1 : Option Value} {r : List (Option Value)} (d : decode cc pc = .ok (.astore_n 1, 1)) (hv : yd_isref v = true) (hn : 1 < nL) (hp : pc + 1 = pc2) (k : yW p l e R s m args below meth c nL D A cells slots Q pc2 (b0 :: some v :: r) (st) (h)) : yW p l e R s m args below meth c nL D A cells slots Q pc (b0 :: b1 :: r) (v :: st) (h) := fun H locs ls a b w => by
  subst hp
  obtain ⟨lw, a1, a2⟩ := a
  rcases yd_isref_or hv with rfl | ⟨x, rfl⟩
  · exact lv_astore_nN C.1 C.2.1 d rfl a1 hn rfl (fun ls' hl' => k H locs ls' (yd_lvset (lv := b0 :: b1 :: r) (i := 1) rfl a2 hl') b w)
  · exact lv_astore_n C.1 C.2.1 d rfl a1 hn rfl (fun ls' hl' => k H locs ls' (yd_lvset (lv := b0 :: b1 :: r) (i := 1) rfl a2 hl') b w)
theorem yr_iinc1 (pc2 : Nat) (C : yC Z D dA p s m args meth c cc nL own A) {x : Int32} (z : Int32) {n : Int} {b0 : Option Value} {r : List (Option Value)} (d : decode cc pc = .ok (.iinc 1 n, 3)) (hz : Int32.ofInt n = z) (hn : 1 < nL) (hp : pc + 3 = pc2) (k : yW p l e R s m args below meth c nL D A cells slots Q pc2 (b0 :: some (.int (x + z)) :: r) (st) (h)) : yW p l e R s m args below meth c nL D A cells slots Q pc (b0 :: some (.int x) :: r) (st) (h) := fun H locs ls a b w => by
  subst hp hz
  obtain ⟨lw, a1, a2⟩ := a
  obtain ⟨j, hj⟩ := List.getElem?_of_mem (a2 1 (.int x) rfl).1
  exact lv_iinc C.1 C.2.1 d a1 hj rfl hn rfl (fun ls' hl' => k H locs ls' (yd_lvset (lv := b0 :: some (.int x) :: r) (i := 1) rfl a2 hl') b w)
theorem yr_istore2 (pc2 : Nat) (C : yC Z D dA p s m args meth c cc nL own A) {x : Int32} {b0 b1 b2 : Option Value} {r : List (Option Value)} (d : decode cc pc = .ok (.istore_n 2, 1)) (hn : 2 < nL) (hp : pc + 1 = pc2) (k : yW p l e R s m args below meth c nL D A cells slots Q pc2 (b0 :: b1 :: some (.int x) :: r) (st) (h)) : yW p l e R s m args below meth c nL D A cells slots Q pc (b0 :: b1 :: b2 :: r) (.int x :: st) (h) := fun H locs ls a b w => by
  subst hp
  obtain ⟨lw, a1, a2⟩ := a
  exact lv_istore_n C.1 C.2.1 d rfl a1 hn rfl (fun ls' hl' => k H locs ls' (yd_lvset (lv := b0 :: b1 :: b2 :: r) (i := 2) rfl a2 hl') b w)
theorem yr_astore2 (pc2 : Nat) (C : yC Z D dA p s m args meth c cc nL own A) {v : Value} {b0 b1 b2 : Option Value} {r : List (Option Value)} (d : decode cc pc = .ok (.astore_n 2, 1)) (hv : yd_isref v = true) (hn : 2 < nL) (hp : pc + 1 = pc2) (k : yW p l e R s m args below meth c nL D A cells slots Q pc2 (b0 :: b1 :: some v :: r) (st) (h)) : yW p l e R s m args below meth c nL D A cells slots Q pc (b0 :: b1 :: b2 :: r) (v :: st) (h) := fun H locs ls a b w => by
  subst hp
  obtain ⟨lw, a1, a2⟩ := a
  rcases yd_isref_or hv with rfl | ⟨x, rfl⟩
  · exact lv_astore_nN C.1 C.2.1 d rfl a1 hn rfl (fun ls' hl' => k H locs ls' (yd_lvset (lv := b0 :: b1 :: b2 :: r) (i := 2) rfl a2 hl') b w)
  · exact lv_astore_n C.1 C.2.1 d rfl a1 hn rfl (fun ls' hl' => k H locs ls' (yd_lvset (lv := b0 :: b1 :: b2 :: r) (i := 2) rfl a2 hl') b w)
theorem yr_iinc2 (pc2 : Nat) (C : yC Z D dA p s m args meth c cc nL own A) {x : Int32} (z : Int32) {n : Int} {b0 b1 : Option Value} {r : List (Option Value)} (d : decode cc pc = .ok (.iinc 2 n, 3)) (hz : Int32.ofInt n = z) (hn : 2 < nL) (hp : pc + 3 = pc2) (k : yW p l e R s m args below meth c nL D A cells slots Q pc2 (b0 :: b1 :: some (.int (x + z)) :: r) (st) (h)) : yW p l e R s m args below meth c nL D A cells slots Q pc (b0 :: b1 :: some (.int x) :: r) (st) (h) := fun H locs ls a b w => by
  subst hp hz
  obtain ⟨lw, a1, a2⟩ := a
  obtain ⟨j, hj⟩ := List.getElem?_of_mem (a2 2 (.int x) rfl).1
  exact lv_iinc C.1 C.2.1 d a1 hj rfl hn rfl (fun ls' hl' => k H locs ls' (yd_lvset (lv := b0 :: b1 :: some (.int x) :: r) (i := 2) rfl a2 hl') b w)
theorem yr_istore3 (pc2 : Nat) (C : yC Z D dA p s m args meth c cc nL own A) {x : Int32} {b0 b1 b2 b3 : Option Value} {r : List (Option Value)} (d : decode cc pc = .ok (.istore_n 3, 1)) (hn : 3 < nL) (hp : pc + 1 = pc2) (k : yW p l e R s m args below meth c nL D A cells slots Q pc2 (b0 :: b1 :: b2 :: some (.int x) :: r) (st) (h)) : yW p l e R s m args below meth c nL D A cells slots Q pc (b0 :: b1 :: b2 :: b3 :: r) (.int x :: st) (h) := fun H locs ls a b w => by
  subst hp
  obtain ⟨lw, a1, a2⟩ := a
  exact lv_istore_n C.1 C.2.1 d rfl a1 hn rfl (fun ls' hl' => k H locs ls' (yd_lvset (lv := b0 :: b1 :: b2 :: b3 :: r) (i := 3) rfl a2 hl') b w)
theorem yr_astore3 (pc2 : Nat) (C : yC Z D dA p s m args meth c cc nL own A) {v : Value} {b0 b1 b2 b3 : Option Value} {r : List (Option Value)} (d : decode cc pc = .ok (.astore_n 3, 1)) (hv : yd_isref v = true) (hn : 3 < nL) (hp : pc + 1 = pc2) (k : yW p l e R s m args below meth c nL D A cells slots Q pc2 (b0 :: b1 :: b2 :: some v :: r) (st) (h)) : yW p l e R s m args below meth c nL D A cells slots Q pc (b0 :: b1 :: b2 :: b3 :: r) (v :: st) (h) := fun H locs ls a b w => by
  subst hp
  obtain ⟨lw, a1, a2⟩ := a
  rcases yd_isref_or hv with rfl | ⟨x, rfl⟩
  · exact lv_astore_nN C.1 C.2.1 d rfl a1 hn rfl (fun ls' hl' => k H locs ls' (yd_lvset (lv := b0 :: b1 :: b2 :: b3 :: r) (i := 3) rfl a2 hl') b w)
  · exact lv_astore_n C.1 C.2.1 d rfl a1 hn rfl (fun ls' hl' => k H locs ls' (yd_lvset (lv := b0 :: b1 :: b2 :: b3 :: r) (i := 3) rfl a2 hl') b w)
theorem yr_iinc3 (pc2 : Nat) (C : yC Z D dA p s m args meth c cc nL own A) {x : Int32} (z : Int32) {n : Int} {b0 b1 b2 : Option Value} {r : List (Option Value)} (d : decode cc pc = .ok (.iinc 3 n, 3)) (hz : Int32.ofInt n = z) (hn : 3 < nL) (hp : pc + 3 = pc2) (k : yW p l e R s m args below meth c nL D A cells slots Q pc2 (b0 :: b1 :: b2 :: some (.int (x + z)) :: r) (st) (h)) : yW p l e R s m args below meth c nL D A cells slots Q pc (b0 :: b1 :: b2 :: some (.int x) :: r) (st) (h) := fun H locs ls a b w => by
  subst hp hz
  obtain ⟨lw, a1, a2⟩ := a
  obtain ⟨j, hj⟩ := List.getElem?_of_mem (a2 3 (.int x) rfl).1
  exact lv_iinc C.1 C.2.1 d a1 hj rfl hn rfl (fun ls' hl' => k H locs ls' (yd_lvset (lv := b0 :: b1 :: b2 :: some (.int x) :: r) (i := 3) rfl a2 hl') b w)
theorem yr_istore4 (pc2 : Nat) (C : yC Z D dA p s m args meth c cc nL own A) {x : Int32} {b0 b1 b2 b3 b4 : Option Value} {r : List (Option Value)} (d : decode cc pc = .ok (.istore 4, 2)) (hn : 4 < nL) (hp : pc + 2 = pc2) (k : yW p l e R s m args below meth c nL D A cells slots Q pc2 (b0 :: b1 :: b2 :: b3 :: some (.int x) :: r) (st) (h)) : yW p l e R s m args below meth c nL D A cells slots Q pc (b0 :: b1 :: b2 :: b3 :: b4 :: r) (.int x :: st) (h) := fun H locs ls a b w => by
  subst hp
  obtain ⟨lw, a1, a2⟩ := a
  exact lv_istore C.1 C.2.1 d a1 hn rfl (fun ls' hl' => k H locs ls' (yd_lvset (lv := b0 :: b1 :: b2 :: b3 :: b4 :: r) (i := 4) rfl a2 hl') b w)
theorem yr_astore4 (pc2 : Nat) (C : yC Z D dA p s m args meth c cc nL own A) {v : Value} {b0 b1 b2 b3 b4 : Option Value} {r : List (Option Value)} (d : decode cc pc = .ok (.astore 4, 2)) (hv : yd_isref v = true) (hn : 4 < nL) (hp : pc + 2 = pc2) (k : yW p l e R s m args below meth c nL D A cells slots Q pc2 (b0 :: b1 :: b2 :: b3 :: some v :: r) (st) (h)) : yW p l e R s m args below meth c nL D A cells slots Q pc (b0 :: b1 :: b2 :: b3 :: b4 :: r) (v :: st) (h) := fun H locs ls a b w => by
  subst hp
  obtain ⟨lw, a1, a2⟩ := a
  rcases yd_isref_or hv with rfl | ⟨x, rfl⟩
  · exact lv_astoreN C.1 C.2.1 d a1 hn rfl (fun ls' hl' => k H locs ls' (yd_lvset (lv := b0 :: b1 :: b2 :: b3 :: b4 :: r) (i := 4) rfl a2 hl') b w)
  · exact lv_astore C.1 C.2.1 d a1 hn rfl (fun ls' hl' => k H locs ls' (yd_lvset (lv := b0 :: b1 :: b2 :: b3 :: b4 :: r) (i := 4) rfl a2 hl') b w)
theorem yr_iinc4 (pc2 : Nat) (C : yC Z D dA p s m args meth c cc nL own A) {x : Int32} (z : Int32) {n : Int} {b0 b1 b2 b3 : Option Value} {r : List (Option Value)} (d : decode cc pc = .ok (.iinc 4 n, 3)) (hz : Int32.ofInt n = z) (hn : 4 < nL) (hp : pc + 3 = pc2) (k : yW p l e R s m args below meth c nL D A cells slots Q pc2 (b0 :: b1 :: b2 :: b3 :: some (.int (x + z)) :: r) (st) (h)) : yW p l e R s m args below meth c nL D A cells slots Q pc (b0 :: b1 :: b2 :: b3 :: some (.int x) :: r) (st) (h) := fun H locs ls a b w => by
  subst hp hz
  obtain ⟨lw, a1, a2⟩ := a
  obtain ⟨j, hj⟩ := List.getElem?_of_mem (a2 4 (.int x) rfl).1
  exact lv_iinc C.1 C.2.1 d a1 hj rfl hn rfl (fun ls' hl' => k H locs ls' (yd_lvset (lv := b0 :: b1 :: b2 :: b3 :: some (.int x) :: r) (i := 4) rfl a2 hl') b w)
theorem yr_istore5 (pc2 : Nat) (C : yC Z D dA p s m args meth c cc nL own A) {x : Int32} {b0 b1 b2 b3 b4 b5 : Option Value} {r : List (Option Value)} (d : decode cc pc = .ok (.istore 5, 2)) (hn : 5 < nL) (hp : pc + 2 = pc2) (k : yW p l e R s m args below meth c nL D A cells slots Q pc2 (b0 :: b1 :: b2 :: b3 :: b4 :: some (.int x) :: r) (st) (h)) : yW p l e R s m args below meth c nL D A cells slots Q pc (b0 :: b1 :: b2 :: b3 :: b4 :: b5 :: r) (.int x :: st) (h) := fun H locs ls a b w => by
  subst hp
  obtain ⟨lw, a1, a2⟩ := a
  exact lv_istore C.1 C.2.1 d a1 hn rfl (fun ls' hl' => k H locs ls' (yd_lvset (lv := b0 :: b1 :: b2 :: b3 :: b4 :: b5 :: r) (i := 5) rfl a2 hl') b w)
theorem yr_astore5 (pc2 : Nat) (C : yC Z D dA p s m args meth c cc nL own A) {v : Value} {b0 b1 b2 b3 b4 b5 : Option Value} {r : List (Option Value)} (d : decode cc pc = .ok (.astore 5, 2)) (hv : yd_isref v = true) (hn : 5 < nL) (hp : pc + 2 = pc2) (k : yW p l e R s m args below meth c nL D A cells slots Q pc2 (b0 :: b1 :: b2 :: b3 :: b4 :: some v :: r) (st) (h)) : yW p l e R s m args below meth c nL D A cells slots Q pc (b0 :: b1 :: b2 :: b3 :: b4 :: b5 :: r) (v :: st) (h) := fun H locs ls a b w => by
  subst hp
  obtain ⟨lw, a1, a2⟩ := a
  rcases yd_isref_or hv with rfl | ⟨x, rfl⟩
  · exact lv_astoreN C.1 C.2.1 d a1 hn rfl (fun ls' hl' => k H locs ls' (yd_lvset (lv := b0 :: b1 :: b2 :: b3 :: b4 :: b5 :: r) (i := 5) rfl a2 hl') b w)
  · exact lv_astore C.1 C.2.1 d a1 hn rfl (fun ls' hl' => k H locs ls' (yd_lvset (lv := b0 :: b1 :: b2 :: b3 :: b4 :: b5 :: r) (i := 5) rfl a2 hl') b w)
theorem yr_iinc5 (pc2 : Nat) (C : yC Z D dA p s m args meth c cc nL own A) {x : Int32} (z : Int32) {n : Int} {b0 b1 b2 b3 b4 : Option Value} {r : List (Option Value)} (d : decode cc pc = .ok (.iinc 5 n, 3)) (hz : Int32.ofInt n = z) (hn : 5 < nL) (hp : pc + 3 = pc2) (k : yW p l e R s m args below meth c nL D A cells slots Q pc2 (b0 :: b1 :: b2 :: b3 :: b4 :: some (.int (x + z)) :: r) (st) (h)) : yW p l e R s m args below meth c nL D A cells slots Q pc (b0 :: b1 :: b2 :: b3 :: b4 :: some (.int x) :: r) (st) (h) := fun H locs ls a b w => by
  subst hp hz
  obtain ⟨lw, a1, a2⟩ := a
  obtain ⟨j, hj⟩ := List.getElem?_of_mem (a2 5 (.int x) rfl).1
  exact lv_iinc C.1 C.2.1 d a1 hj rfl hn rfl (fun ls' hl' => k H locs ls' (yd_lvset (lv := b0 :: b1 :: b2 :: b3 :: b4 :: some (.int x) :: r) (i := 5) rfl a2 hl') b w)
theorem yr_istore6 (pc2 : Nat) (C : yC Z D dA p s m args meth c cc nL own A) {x : Int32} {b0 b1 b2 b3 b4 b5 b6 : Option Value} {r : List (Option Value)} (d : decode cc pc = .ok (.istore 6, 2)) (hn : 6 < nL) (hp : pc + 2 = pc2) (k : yW p l e R s m args below meth c nL D A cells slots Q pc2 (b0 :: b1 :: b2 :: b3 :: b4 :: b5 :: some (.int x) :: r) (st) (h)) : yW p l e R s m args below meth c nL D A cells slots Q pc (b0 :: b1 :: b2 :: b3 :: b4 :: b5 :: b6 :: r) (.int x :: st) (h) := fun H locs ls a b w => by
  subst hp
  obtain ⟨lw, a1, a2⟩ := a
  exact lv_istore C.1 C.2.1 d a1 hn rfl (fun ls' hl' => k H locs ls' (yd_lvset (lv := b0 :: b1 :: b2 :: b3 :: b4 :: b5 :: b6 :: r) (i := 6) rfl a2 hl') b w)
theorem yr_astore6 (pc2 : Nat) (C : yC Z D dA p s m args meth c cc nL own A) {v : Value} {b0 b1 b2 b3 b4 b5 b6 : Option Value} {r : List (Option Value)} (d : decode cc pc = .ok (.astore 6, 2)) (hv : yd_isref v = true) (hn : 6 < nL) (hp : pc + 2 = pc2) (k : yW p l e R s m args below meth c nL D A cells slots Q pc2 (b0 :: b1 :: b2 :: b3 :: b4 :: b5 :: some v :: r) (st) (h)) : yW p l e R s m args below meth c nL D A cells slots Q pc (b0 :: b1 :: b2 :: b3 :: b4 :: b5 :: b6 :: r) (v :: st) (h) := fun H locs ls a b w => by
  subst hp
  obtain ⟨lw, a1, a2⟩ := a
  rcases yd_isref_or hv with rfl | ⟨x, rfl⟩
  · exact lv_astoreN C.1 C.2.1 d a1 hn rfl (fun ls' hl' => k H locs ls' (yd_lvset (lv := b0 :: b1 :: b2 :: b3 :: b4 :: b5 :: b6 :: r) (i := 6) rfl a2 hl') b w)
  · exact lv_astore C.1 C.2.1 d a1 hn rfl (fun ls' hl' => k H locs ls' (yd_lvset (lv := b0 :: b1 :: b2 :: b3 :: b4 :: b5 :: b6 :: r) (i := 6) rfl a2 hl') b w)
theorem yr_iinc6 (pc2 : Nat) (C : yC Z D dA p s m args meth c cc nL own A) {x : Int32} (z : Int32) {n : Int} {b0 b1 b2 b3 b4 b5 : Option Value} {r : List (Option Value)} (d : decode cc pc = .ok (.iinc 6 n, 3)) (hz : Int32.ofInt n = z) (hn : 6 < nL) (hp : pc + 3 = pc2) (k : yW p l e R s m args below meth c nL D A cells slots Q pc2 (b0 :: b1 :: b2 :: b3 :: b4 :: b5 :: some (.int (x + z)) :: r) (st) (h)) : yW p l e R s m args below meth c nL D A cells slots Q pc (b0 :: b1 :: b2 :: b3 :: b4 :: b5 :: some (.int x) :: r) (st) (h) := fun H locs ls a b w => by
  subst hp hz
  obtain ⟨lw, a1, a2⟩ := a
  obtain ⟨j, hj⟩ := List.getElem?_of_mem (a2 6 (.int x) rfl).1
  exact lv_iinc C.1 C.2.1 d a1 hj rfl hn rfl (fun ls' hl' => k H locs ls' (yd_lvset (lv := b0 :: b1 :: b2 :: b3 :: b4 :: b5 :: some (.int x) :: r) (i := 6) rfl a2 hl') b w)
theorem yr_istore7 (pc2 : Nat) (C : yC Z D dA p s m args meth c cc nL own A) {x : Int32} {b0 b1 b2 b3 b4 b5 b6 b7 : Option Value} {r : List (Option Value)} (d : decode cc pc = .ok (.istore 7, 2)) (hn : 7 < nL) (hp : pc + 2 = pc2) (k : yW p l e R s m args below meth c nL D A cells slots Q pc2 (b0 :: b1 :: b2 :: b3 :: b4 :: b5 :: b6 :: some (.int x) :: r) (st) (h)) : yW p l e R s m args below meth c nL D A cells slots Q pc (b0 :: b1 :: b2 :: b3 :: b4 :: b5 :: b6 :: b7 :: r) (.int x :: st) (h) := fun H locs ls a b w => by
  subst hp
  obtain ⟨lw, a1, a2⟩ := a
  exact lv_istore C.1 C.2.1 d a1 hn rfl (fun ls' hl' => k H locs ls' (yd_lvset (lv := b0 :: b1 :: b2 :: b3 :: b4 :: b5 :: b6 :: b7 :: r) (i := 7) rfl a2 hl') b w)
theorem yr_astore7 (pc2 : Nat) (C : yC Z D dA p s m args meth c cc nL own A) {v : Value} {b0 b1 b2 b3 b4 b5 b6 b7 : Option Value} {r : List (Option Value)} (d : decode cc pc = .ok (.astore 7, 2)) (hv : yd_isref v = true) (hn : 7 < nL) (hp : pc + 2 = pc2) (k : yW p l e R s m args below meth c nL D A cells slots Q pc2 (b0 :: b1 :: b2 :: b3 :: b4 :: b5 :: b6 :: some v :: r) (st) (h)) : yW p l e R s m args below meth c nL D A cells slots Q pc (b0 :: b1 :: b2 :: b3 :: b4 :: b5 :: b6 :: b7 :: r) (v :: st) (h) := fun H locs ls a b w => by
  subst hp
  obtain ⟨lw, a1, a2⟩ := a
  rcases yd_isref_or hv with rfl | ⟨x, rfl⟩
  · exact lv_astoreN C.1 C.2.1 d a1 hn rfl (fun ls' hl' => k H locs ls' (yd_lvset (lv := b0 :: b1 :: b2 :: b3 :: b4 :: b5 :: b6 :: b7 :: r) (i := 7) rfl a2 hl') b w)
  · exact lv_astore C.1 C.2.1 d a1 hn rfl (fun ls' hl' => k H locs ls' (yd_lvset (lv := b0 :: b1 :: b2 :: b3 :: b4 :: b5 :: b6 :: b7 :: r) (i := 7) rfl a2 hl') b w)
theorem yr_iinc7 (pc2 : Nat) (C : yC Z D dA p s m args meth c cc nL own A) {x : Int32} (z : Int32) {n : Int} {b0 b1 b2 b3 b4 b5 b6 : Option Value} {r : List (Option Value)} (d : decode cc pc = .ok (.iinc 7 n, 3)) (hz : Int32.ofInt n = z) (hn : 7 < nL) (hp : pc + 3 = pc2) (k : yW p l e R s m args below meth c nL D A cells slots Q pc2 (b0 :: b1 :: b2 :: b3 :: b4 :: b5 :: b6 :: some (.int (x + z)) :: r) (st) (h)) : yW p l e R s m args below meth c nL D A cells slots Q pc (b0 :: b1 :: b2 :: b3 :: b4 :: b5 :: b6 :: some (.int x) :: r) (st) (h) := fun H locs ls a b w => by
  subst hp hz
  obtain ⟨lw, a1, a2⟩ := a
  obtain ⟨j, hj⟩ := List.getElem?_of_mem (a2 7 (.int x) rfl).1
  exact lv_iinc C.1 C.2.1 d a1 hj rfl hn rfl (fun ls' hl' => k H locs ls' (yd_lvset (lv := b0 :: b1 :: b2 :: b3 :: b4 :: b5 :: b6 :: some (.int x) :: r) (i := 7) rfl a2 hl') b w)
theorem yr_istore8 (pc2 : Nat) (C : yC Z D dA p s m args meth c cc nL own A) {x : Int32} {b0 b1 b2 b3 b4 b5 b6 b7 b8 : Option Value} {r : List (Option Value)} (d : decode cc pc = .ok (.istore 8, 2)) (hn : 8 < nL) (hp : pc + 2 = pc2) (k : yW p l e R s m args below meth c nL D A cells slots Q pc2 (b0 :: b1 :: b2 :: b3 :: b4 :: b5 :: b6 :: b7 :: some (.int x) :: r) (st) (h)) : yW p l e R s m args below meth c nL D A cells slots Q pc (b0 :: b1 :: b2 :: b3 :: b4 :: b5 :: b6 :: b7 :: b8 :: r) (.int x :: st) (h) := fun H locs ls a b w => by
  subst hp
  obtain ⟨lw, a1, a2⟩ := a
  exact lv_istore C.1 C.2.1 d a1 hn rfl (fun ls' hl' => k H locs ls' (yd_lvset (lv := b0 :: b1 :: b2 :: b3 :: b4 :: b5 :: b6 :: b7 :: b8 :: r) (i := 8) rfl a2 hl') b w)
theorem yr_astore8 (pc2 : Nat) (C : yC Z D dA p s m args meth c cc nL own A) {v : Value} {b0 b1 b2 b3 b4 b5 b6 b7 b8 : Option Value} {r : List (Option Value)} (d : decode cc pc = .ok (.astore 8, 2)) (hv : yd_isref v = true) (hn : 8 < nL) (hp : pc + 2 = pc2) (k : yW p l e R s m args below meth c nL D A cells slots Q pc2 (b0 :: b1 :: b2 :: b3 :: b4 :: b5 :: b6 :: b7 :: some v :: r) (st) (h)) : yW p l e R s m args below meth c nL D A cells slots Q pc (b0 :: b1 :: b2 :: b3 :: b4 :: b5 :: b6 :: b7 :: b8 :: r) (v :: st) (h) := fun H locs ls a b w => by
  subst hp
  obtain ⟨lw, a1, a2⟩ := a
  rcases yd_isref_or hv with rfl | ⟨x, rfl⟩
  · exact lv_astoreN C.1 C.2.1 d a1 hn rfl (fun ls' hl' => k H locs ls' (yd_lvset (lv := b0 :: b1 :: b2 :: b3 :: b4 :: b5 :: b6 :: b7 :: b8 :: r) (i := 8) rfl a2 hl') b w)
  · exact lv_astore C.1 C.2.1 d a1 hn rfl (fun ls' hl' => k H locs ls' (yd_lvset (lv := b0 :: b1 :: b2 :: b3 :: b4 :: b5 :: b6 :: b7 :: b8 :: r) (i := 8) rfl a2 hl') b w)
theorem yr_iinc8 (pc2 : Nat) (C : yC Z D dA p s m args meth c cc nL own A) {x : Int32} (z : Int32) {n : Int} {b0 b1 b2 b3 b4 b5 b6 b7 : Option Value} {r : List (Option Value)} (d : decode cc pc = .ok (.iinc 8 n, 3)) (hz : Int32.ofInt n = z) (hn : 8 < nL) (hp : pc + 3 = pc2) (k : yW p l e R s m args below meth c nL D A cells slots Q pc2 (b0 :: b1 :: b2 :: b3 :: b4 :: b5 :: b6 :: b7 :: some (.int (x + z)) :: r) (st) (h)) : yW p l e R s m args below meth c nL D A cells slots Q pc (b0 :: b1 :: b2 :: b3 :: b4 :: b5 :: b6 :: b7 :: some (.int x) :: r) (st) (h) := fun H locs ls a b w => by
  subst hp hz
  obtain ⟨lw, a1, a2⟩ := a
  obtain ⟨j, hj⟩ := List.getElem?_of_mem (a2 8 (.int x) rfl).1
  exact lv_iinc C.1 C.2.1 d a1 hj rfl hn rfl (fun ls' hl' => k H locs ls' (yd_lvset (lv := b0 :: b1 :: b2 :: b3 :: b4 :: b5 :: b6 :: b7 :: some (.int x) :: r) (i := 8) rfl a2 hl') b w)
theorem yr_istore9 (pc2 : Nat) (C : yC Z D dA p s m args meth c cc nL own A) {x : Int32} {b0 b1 b2 b3 b4 b5 b6 b7 b8 b9 : Option Value} {r : List (Option Value)} (d : decode cc pc = .ok (.istore 9, 2)) (hn : 9 < nL) (hp : pc + 2 = pc2) (k : yW p l e R s m args below meth c nL D A cells slots Q pc2 (b0 :: b1 :: b2 :: b3 :: b4 :: b5 :: b6 :: b7 :: b8 :: some (.int x) :: r) (st) (h)) : yW p l e R s m args below meth c nL D A cells slots Q pc (b0 :: b1 :: b2 :: b3 :: b4 :: b5 :: b6 :: b7 :: b8 :: b9 :: r) (.int x :: st) (h) := fun H locs ls a b w => by
  subst hp
  obtain ⟨lw, a1, a2⟩ := a
  exact lv_istore C.1 C.2.1 d a1 hn rfl (fun ls' hl' => k H locs ls' (yd_lvset (lv := b0 :: b1 :: b2 :: b3 :: b4 :: b5 :: b6 :: b7 :: b8 :: b9 :: r) (i := 9) rfl a2 hl') b w)
theorem yr_astore9 (pc2 : Nat) (C : yC Z D dA p s m args meth c cc nL own A) {v : Value} {b0 b1 b2 b3 b4 b5 b6 b7 b8 b9 : Option Value} {r : List (Option Value)} (d : decode cc pc = .ok (.astore 9, 2)) (hv : yd_isref v = true) (hn : 9 < nL) (hp : pc + 2 = pc2) (k : yW p l e R s m args below meth c nL D A cells slots Q pc2 (b0 :: b1 :: b2 :: b3 :: b4 :: b5 :: b6 :: b7 :: b8 :: some v :: r) (st) (h)) : yW p l e R s m args below meth c nL D A cells slots Q pc (b0 :: b1 :: b2 :: b3 :: b4 :: b5 :: b6 :: b7 :: b8 :: b9 :: r) (v :: st) (h) := fun H locs ls a b w => by
  subst hp
  obtain ⟨lw, a1, a2⟩ := a
  rcases yd_isref_or hv with rfl | ⟨x, rfl⟩
  · exact lv_astoreN C.1 C.2.1 d a1 hn rfl (fun ls' hl' => k H locs ls' (yd_lvset (lv := b0 :: b1 :: b2 :: b3 :: b4 :: b5 :: b6 :: b7 :: b8 :: b9 :: r) (i := 9) rfl a2 hl') b w)
  · exact lv_astore C.1 C.2.1 d a1 hn rfl (fun ls' hl' => k H locs ls' (yd_lvset (lv := b0 :: b1 :: b2 :: b3 :: b4 :: b5 :: b6 :: b7 :: b8 :: b9 :: r) (i := 9) rfl a2 hl') b w)
theorem yr_iinc9 (pc2 : Nat) (C : yC Z D dA p s m args meth c cc nL own A) {x : Int32} (z : Int32) {n : Int} {b0 b1 b2 b3 b4 b5 b6 b7 b8 : Option Value} {r : List (Option Value)} (d : decode cc pc = .ok (.iinc 9 n, 3)) (hz : Int32.ofInt n = z) (hn : 9 < nL) (hp : pc + 3 = pc2) (k : yW p l e R s m args below meth c nL D A cells slots Q pc2 (b0 :: b1 :: b2 :: b3 :: b4 :: b5 :: b6 :: b7 :: b8 :: some (.int (x + z)) :: r) (st) (h)) : yW p l e R s m args below meth c nL D A cells slots Q pc (b0 :: b1 :: b2 :: b3 :: b4 :: b5 :: b6 :: b7 :: b8 :: some (.int x) :: r) (st) (h) := fun H locs ls a b w => by
  subst hp hz
  obtain ⟨lw, a1, a2⟩ := a
  obtain ⟨j, hj⟩ := List.getElem?_of_mem (a2 9 (.int x) rfl).1
  exact lv_iinc C.1 C.2.1 d a1 hj rfl hn rfl (fun ls' hl' => k H locs ls' (yd_lvset (lv := b0 :: b1 :: b2 :: b3 :: b4 :: b5 :: b6 :: b7 :: b8 :: some (.int x) :: r) (i := 9) rfl a2 hl') b w)
end Rows1
