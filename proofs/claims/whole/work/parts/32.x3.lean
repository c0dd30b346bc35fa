section XRows
variable {Z : (Nat → Prop) → State → Prop} {D : va_G} {dA : Nat → ClassId} {p : Program} {l : Launch} {e : Env} {R : Room} {s : State} {m : MethodId} {args : Array Value} {below : List Frame} {meth : Method} {c : Code} {cc : ByteArray} {nL : Nat} {own : String} {A : Nat → Prop} {cells slots : Nat} {Q : State → Prop} {pc : Nat} {lv : List (Option Value)} {st : List Value} {h : yH}
variable {P : yH → Prop}
theorem xx_put (pc2 : Nat) (C : yC Z D dA p s m args meth c cc nL own A) {idx ci k a : Nat} {fs : List Value} {v : Value} {ty : FieldType} (d : decode cc pc = .ok (.putfield idx, 3)) (hl : yFp own idx ci k ty false) (ha : h a = some (.inr (ci, fs))) (hlen : k < fs.length) (hn : narrow ty v = v) (hf : fits ty v = true) (hP : P (va_up h a (some (.inr (ci, fs.set k v))))) (hp : pc + 3 = pc2) (kk : ∀ h : yH, P h → yW p l e R s m args below meth c nL D A cells slots Q pc2 lv (st) (h)) : yW p l e R s m args below meth c nL D A cells slots Q pc lv (v :: .ref a :: st) (h) := yr_put pc2 C d hl ha hlen hn hf hp (kk _ hP)
theorem xx_iald (pc2 : Nat) (C : yC Z D dA p s m args meth c cc nL own A) {a n i : Nat} {f : Nat → Int32} (x : Int32) (d : decode cc pc = .ok (.iaload, 1)) (ha : h a = some (.inl (dA 0, n, .inl f))) (hi : i < n) (hn : n < 2 ^ 31) (hx : f i = x) (hp : pc + 1 = pc2) (k : yW p l e R s m args below meth c nL D A cells slots Q pc2 lv (.int x :: st) (h)) : yW p l e R s m args below meth c nL D A cells slots Q pc lv (.int (nI i) :: .ref a :: st) (h) := by
  refine yr_iald pc2 C d ha (vp_in_nI hi hn) hp ?_
  rw [nI_clamp (by omega), hx]
  exact k
theorem xx_bald (pc2 : Nat) (C : yC Z D dA p s m args meth c cc nL own A) {a n i : Nat} {f : Nat → Int32} (x : Int32) (d : decode cc pc = .ok (.baload, 1)) (ha : h a = some (.inl (dA 1, n, .inl f))) (hi : i < n) (hn : n < 2 ^ 31) (hx : f i = x) (hp : pc + 1 = pc2) (k : yW p l e R s m args below meth c nL D A cells slots Q pc2 lv (.int x :: st) (h)) : yW p l e R s m args below meth c nL D A cells slots Q pc lv (.int (nI i) :: .ref a :: st) (h) := by
  refine yr_bald pc2 C d ha (vp_in_nI hi hn) hp ?_
  rw [nI_clamp (by omega), hx]
  exact k
theorem xx_sald (pc2 : Nat) (C : yC Z D dA p s m args meth c cc nL own A) {a n i : Nat} {f : Nat → Int32} (x : Int32) (d : decode cc pc = .ok (.saload, 1)) (ha : h a = some (.inl (dA 2, n, .inl f))) (hi : i < n) (hn : n < 2 ^ 31) (hx : f i = x) (hp : pc + 1 = pc2) (k : yW p l e R s m args below meth c nL D A cells slots Q pc2 lv (.int x :: st) (h)) : yW p l e R s m args below meth c nL D A cells slots Q pc lv (.int (nI i) :: .ref a :: st) (h) := by
  refine yr_sald pc2 C d ha (vp_in_nI hi hn) hp ?_
  rw [nI_clamp (by omega), hx]
  exact k
theorem xx_iast (pc2 : Nat) (C : yC Z D dA p s m args meth c cc nL own A) {a n i : Nat} {f : Nat → Int32} {x : Int32} (d : decode cc pc = .ok (.iastore, 1)) (ha : h a = some (.inl (dA 0, n, .inl f))) (hi : i < n) (hn : n < 2 ^ 31) (hP : P (va_up h a (some (.inl (dA 0, n, .inl (upd f i x)))))) (hp : pc + 1 = pc2) (kk : ∀ h : yH, P h → yW p l e R s m args below meth c nL D A cells slots Q pc2 lv (st) (h)) : yW p l e R s m args below meth c nL D A cells slots Q pc lv (.int x :: .int (nI i) :: .ref a :: st) (h) := by
  refine yr_iast pc2 C d ha (vp_in_nI hi hn) hp ?_
  rw [nI_clamp (by omega)]
  exact kk _ hP
end XRows
theorem xr_cases {f : Nat → Nat} {x : Int32} {b : Nat} (hb : b ≤ 2 ^ 30) (h : cO x b) : (x = -5 ∧ xr f x = none) ∨ ∃ z : Nat, z < b ∧ x = nI z ∧ xr f x = some (f z) := by
  rcases h with e | ⟨z, hz, e⟩
  · left
    exact ⟨e, by rw [e]; simp [xr]⟩
  · right
    refine ⟨z, hz, e, ?_⟩
    rw [e]
    unfold xr
    rw [if_neg (nI_pos (by omega)), ix_nI (by omega)]
section XPl
variable {Z : (Nat → Prop) → State → Prop} {D : va_G} {dA : Nat → ClassId} {p : Program} {l : Launch} {e : Env} {R : Room} {s : State} {m : MethodId} {args : Array Value} {below : List Frame} {meth : Method} {c : Code} {cc : ByteArray} {nL : Nat} {own : String} {A : Nat → Prop} {cells slots : Nat} {Q : State → Prop} {pc : Nat} {lv : List (Option Value)} {st : List Value} {h : yH}
variable {t0 : Nat} {S : yS} {lf mc : Nat → Int32} {cap : Nat → Nat} {B : Nat → Nat → Nat} {N : Nat → Nat}
theorem xx_place (pc2 : Nat) (C : yC Z D dA p s m args meth c cc nL own A) (hR : RX dA t0 S lf mc cap B N h) {g i : Nat} (hs : g < N 1) (hi : i < 4) (hN : N 0 ≤ 8) (hq : cO (S 18 (4 * g + i)) (N 0)) (d : decode cc pc = .ok (.aaload, 1)) (hp : pc + 1 = pc2) (kn : S 18 (4 * g + i) = -5 → yW p l e R s m args below meth c nL D A cells slots Q pc2 lv (.null :: st) (h)) (ks : ∀ z : Nat, z < N 0 → S 18 (4 * g + i) = nI z → yW p l e R s m args below meth c nL D A cells slots Q pc2 lv (.ref (B 3 z) :: st) (h)) : yW p l e R s m args below meth c nL D A cells slots Q pc lv (.int (nI i) :: .ref (B 7 g) :: st) (h) := by
  refine yr_aald pc2 4 C d rfl (rx7 hR hs) hi (by decide) hp ?_
  rw [if_pos hi]
  rcases xr_cases (f := B 3) (by omega) hq with ⟨e1, e2⟩ | ⟨z, hz, e1, e2⟩
  · rw [e2]
    exact kn e1
  · rw [e2]
    exact ks z hz e1
end XPl
