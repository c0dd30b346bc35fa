theorem nwL_7 : yNw RL 7 9 16 [.null, .null, .null, .null, .null, .null, .null, .null, .int 0, .int 0, .null, .int 0, .int 0, .int 0, .null, .int 0] := ⟨RX8, TX8, tyX8, rfl, it_X8, tyX8_ok, yt_in 20 (by decide +kernel) rfl, yt_in 21 (by decide +kernel) rfl, yt_in 1 (by decide +kernel) rfl, fun j hj => match j, hj with | 0, _ => rfl | 1, _ => rfl | 2, _ => rfl | 3, _ => rfl | 4, _ => rfl | 5, _ => rfl | 6, _ => rfl | 7, _ => rfl | 8, _ => rfl | 9, _ => rfl | 10, _ => rfl | 11, _ => rfl | 12, _ => rfl | 13, _ => rfl | 14, _ => rfl | 15, _ => rfl | (q + 16), z => absurd z (by omega)⟩
theorem nwL_10 : yNw RL 10 10 53 mFs0 := ⟨RX9, TX9, tyX9, rfl, it_X9, tyX9_ok, yt_in 790 (by decide +kernel) rfl, yt_in 791 (by decide +kernel) rfl, yt_in 8 (by decide +kernel) rfl, fun j hj => match j, hj with | 0, _ => rfl | 1, _ => rfl | 2, _ => rfl | 3, _ => rfl | 4, _ => rfl | 5, _ => rfl | 6, _ => rfl | 7, _ => rfl | 8, _ => rfl | 9, _ => rfl | 10, _ => rfl | 11, _ => rfl | 12, _ => rfl | 13, _ => rfl | 14, _ => rfl | 15, _ => rfl | 16, _ => rfl | 17, _ => rfl | 18, _ => rfl | 19, _ => rfl | 20, _ => rfl | 21, _ => rfl | 22, _ => rfl | 23, _ => rfl | 24, _ => rfl | 25, _ => rfl | 26, _ => rfl | 27, _ => rfl | 28, _ => rfl | 29, _ => rfl | 30, _ => rfl | 31, _ => rfl | 32, _ => rfl | 33, _ => rfl | 34, _ => rfl | 35, _ => rfl | 36, _ => rfl | 37, _ => rfl | 38, _ => rfl | 39, _ => rfl | 40, _ => rfl | 41, _ => rfl | 42, _ => rfl | 43, _ => rfl | 44, _ => rfl | 45, _ => rfl | 46, _ => rfl | 47, _ => rfl | 48, _ => rfl | 49, _ => rfl | 50, _ => rfl | 51, _ => rfl | 52, _ => rfl | (q + 53), z => absurd z (by omega)⟩
/-! two worlds -/
def jn (h1 h2 : yH) : yH := fun a => (h1 a).or (h2 a)
def apart (h1 h2 : yH) : Prop := ∀ (a : Nat) (e e' : va_E), h1 a = some e → h2 a = some e' → False
theorem apart_sy {h1 h2 : yH} (h : apart h1 h2) : apart h2 h1 := fun a e e' x y => h a e' e y x
theorem jn_l {h1 h2 : yH} {a : Nat} {e : va_E} (h : h1 a = some e) : jn h1 h2 a = some e := by
  unfold jn
  rw [h]
  rfl
theorem jn_r {h1 h2 : yH} (hd : apart h1 h2) {a : Nat} {e : va_E} (h : h2 a = some e) : jn h1 h2 a = some e := by
  unfold jn
  cases x : h1 a with
  | none =>
    rw [h]
    rfl
  | some u => exact absurd h (fun y => hd a u e x y)
theorem jn_comm {h1 h2 : yH} (hd : apart h1 h2) : jn h1 h2 = jn h2 h1 := by
  funext a
  unfold jn
  cases x : h1 a with
  | none =>
    cases y : h2 a with
    | none => rfl
    | some u => rfl
  | some u =>
    cases y : h2 a with
    | none => rfl
    | some v => exact (hd a u v x y).elim
theorem yZ_anti {t0 mi : Nat} {D : va_G} {dA : Nat → ClassId} (A B : Nat → Prop) (U : State) (hAB : ∀ q, B q → A q) (h : yZ t0 mi D dA A U) : yZ t0 mi D dA B U := by
  obtain ⟨k, a, b, c, ⟨d1, d2⟩, e⟩ := h
  refine ⟨k, a, b, c, ⟨?_, ?_⟩, e⟩
  · obtain ⟨cf, kf, fi, ff, x, cell, g1, g2, g3, g4, g5, g6, g7, g8⟩ := d1
    exact ⟨cf, kf, fi, ff, x, cell, g1, g2, g3, g4, g5, g6, g7, fun q => g8 (hAB _ q)⟩
  · obtain ⟨cell, g1, g2, g3, g4, g5, g6, g7⟩ := d2
    exact ⟨cell, g1, g2, g3, g4, g5, g6, fun q => g7 (hAB _ q)⟩
theorem yM_frame {Z : (Nat → Prop) → State → Prop} (hZa : ∀ (A B : Nat → Prop) (U : State), (∀ q, B q → A q) → Z A U → Z B U) {D : va_G} {y : MethodName} {cc : ByteArray} {nL : Nat} {ret : Option FieldType} {k mc ms : Nat} {As : List Value} {h hf : yH} {v : Option Value} {PP : yH → Prop} (hM : yM Z D y cc nL ret k mc ms As h (fun r h' => r = v ∧ PP h')) (hd : apart h hf) : yM Z D y cc nL ret k mc ms As (jn h hf) (fun r h' => r = v ∧ ∃ h1, PP h1 ∧ apart h1 hf ∧ h' = jn h1 hf) := by
  intro l sz p e a1 a2 a3 s m args below hfr happ hP hK
  obtain ⟨hargs, hsz, hw, hz⟩ := hP
  have sub : ∀ q, yA h sz q → yA (jn h hf) sz q := by
    rintro q (⟨u, hu⟩ | hq)
    · exact Or.inl ⟨u, jn_l hu⟩
    · exact Or.inr hq
  have w1 : yd_at D h (fun _ => True) s.heap := yd_sub hw (fun a u hu => jn_l hu)
  have w2 : yd_at D hf (fun _ => True) s.heap := yd_sub hw (fun a u hu => jn_r hd hu)
  have lt : ∀ a u, hf a = some u → a < sz := fun a u hu => by rw [← hsz]; exact (yd_in w2 hu).2
  obtain ⟨k, o, b1, b2, b3, ⟨⟨r, h', c1, ⟨c2, c2'⟩, c3⟩, c4⟩, ⟨L, c5, c6⟩⟩ := hM l sz p e a1 a2 a3 s m args below hfr happ ⟨hargs, hsz, w1, hZa _ _ _ sub hz⟩ hK
  have ap : apart h' hf := fun a u u' x y => by
    rcases (yd_in c3 x).1 with ⟨z, hz⟩ | q
    · exact hd a z u' hz y
    · have := lt a u' y
      omega
  have w3 := yd_kept w2 (fun a u hu => c4.2 a (by rw [hsz]; exact lt a u hu) (fun q => by
    rcases q with ⟨z, hz⟩ | q
    · exact hd a z u hz hu
    · have := lt a u hu
      omega))
  have c3' := yd_weak (B := yA (jn h hf) sz) c3 (fun a u _ q => sub a q)
  have w3' := yd_weak (B := yA (jn h hf) sz) w3 (fun a u hu _ => Or.inl ⟨u, jn_r hd hu⟩)
  exact ⟨k, o, b1, b2, b3, ⟨⟨r, jn h' hf, c1, ⟨c2, h', c2', ap, rfl⟩, yd_join c3' w3' ap⟩, ⟨c4.1, fun q h1 h2 => c4.2 q h1 (fun z => h2 (sub q z))⟩⟩, ⟨L, c5, fun q hq => sub _ (c6 q hq)⟩⟩
section Rows60
variable {Z : (Nat → Prop) → State → Prop} {D : va_G} {dA : Nat → ClassId} {p : Program} {l : Launch} {e : Env} {R : Room} {s : State} {m : MethodId} {args : Array Value} {below : List Frame} {meth : Method} {c : Code} {cc : ByteArray} {nL : Nat} {own : String} {A : Nat → Prop} {cells slots : Nat} {Q : State → Prop} {pc : Nat} {lv : List (Option Value)} {st : List Value} {h : yH}
theorem yr_slen (pc2 : Nat) (C : yC Z D dA p s m args meth c cc nL own A) {b L : Nat} {xs : Nat → Int32} (hX : va_X b L xs s s.heap) (hbl : b < s.heap.size) (hbA : ¬ A b) (d : decode cc pc = .ok (.arraylength, 1)) (hp : pc + 1 = pc2) (k : yW p l e R s m args below meth c nL D A cells slots Q pc2 lv (.int (nI L) :: st) (h)) : yW p l e R s m args below meth c nL D A cells slots Q pc lv (.ref b :: st) (h) := fun H locs ls a1 b1 w => by
  subst hp
  exact va_slen C.1 C.2.1 hX hbl hbA w d (k H locs ls a1 b1 w)
theorem yr_sld (pc2 : Nat) (C : yC Z D dA p s m args meth c cc nL own A) {b L i : Nat} {xs : Nat → Int32} (hX : va_X b L xs s s.heap) (hbl : b < s.heap.size) (hbA : ¬ A b) (hi : i < L) (hL : L < 2 ^ 31) (d : decode cc pc = .ok (.iaload, 1)) (hp : pc + 1 = pc2) (k : yW p l e R s m args below meth c nL D A cells slots Q pc2 lv (.int (xs i) :: st) (h)) : yW p l e R s m args below meth c nL D A cells slots Q pc lv (.int (nI i) :: .ref b :: st) (h) := fun H locs ls a1 b1 w => by
  subst hp
  refine va_sld C.1 C.2.1 hX hbl hbA w (vp_in_nI hi hL) d ?_
  rw [nI_clamp (show i < 2 ^ 31 by omega)]
  exact k H locs ls a1 b1 w
end Rows60
