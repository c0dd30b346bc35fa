/-! the reference: its state is a map of numbers, S k j: of its field k the place j (a field that is no array: place 0) -/
abbrev yS : Type := Nat → Nat → Int32
def mL : Nat → Nat
  | 2 => 8
  | 3 => 8
  | 4 => 8
  | 5 => 8
  | 6 => 8
  | 7 => 8
  | 8 => 8
  | 9 => 8
  | 10 => 8
  | 11 => 8
  | 12 => 8
  | 13 => 8
  | 14 => 8
  | 15 => 8
  | 16 => 64
  | 18 => 24
  | 20 => 12
  | 21 => 2400
  | 22 => 2400
  | 24 => 16
  | 25 => 16
  | 26 => 16
  | 27 => 16
  | 28 => 16
  | 30 => 6
  | 31 => 6
  | 32 => 6
  | 33 => 6
  | 46 => 5
  | 51 => 488
  | 52 => 4
  | _ => 0
def mA : Nat → Bool
  | 2 => true
  | 3 => true
  | 4 => true
  | 5 => true
  | 6 => true
  | 7 => true
  | 8 => true
  | 9 => true
  | 10 => true
  | 11 => true
  | 12 => true
  | 13 => true
  | 14 => true
  | 15 => true
  | 16 => true
  | 18 => true
  | 20 => true
  | 21 => true
  | 22 => true
  | 24 => true
  | 25 => true
  | 26 => true
  | 27 => true
  | 28 => true
  | 30 => true
  | 31 => true
  | 32 => true
  | 33 => true
  | 46 => true
  | 51 => true
  | 52 => true
  | _ => false
def mT : Nat → Nat
  | 14 => 3
  | 15 => 3
  | _ => 0
def mV (ad : Nat → Nat) (S : yS) (k : Nat) : Value := if mA k = true then .ref (ad k) else .int (S k 0)
def mF (ad : Nat → Nat) (S : yS) : List Value := (List.range 53).map (mV ad S)
def mset (S : yS) (k j : Nat) (v : Int32) : yS := va_up S k (upd (S k) j v)
theorem mset_same (S : yS) (k j : Nat) (v : Int32) : mset S k j v k j = v := by simp [mset, va_up, upd]
theorem mset_row (S : yS) (k j : Nat) (v : Int32) : mset S k j v k = upd (S k) j v := by simp [mset, va_up]
theorem mset_at (S : yS) (k j i : Nat) (v : Int32) : mset S k j v k i = if i = j then v else S k i := by simp [mset, va_up, upd]
theorem mset_ne (S : yS) {k j k' : Nat} (v : Int32) (h : k' ≠ k) : mset S k j v k' = S k' := by simp [mset, va_up, h]
/-- the reference's object at m0, its arrays at ad -/
def yMR (dA : Nat → ClassId) (ad : Nat → Nat) (m0 : Nat) (S : yS) (h : yH) : Prop :=
  h m0 = some (.inr (10, mF ad S)) ∧ (∀ k, k < 53 → mA k = true → h (ad k) = some (.inl (dA (mT k), mL k, .inl (S k)))) ∧ (∀ j k, j < 53 → k < 53 → mA j = true → mA k = true → ad j = ad k → j = k)
theorem mF_get {ad : Nat → Nat} {S : yS} {k : Nat} (hk : k < 53) : (mF ad S)[k]? = some (mV ad S k) := by
  unfold mF
  rw [List.getElem?_map, List.getElem?_range hk]
  rfl
theorem mF_len {ad : Nat → Nat} {S : yS} : (mF ad S).length = 53 := by unfold mF; rw [List.length_map, List.length_range]
theorem mF_set {ad : Nat → Nat} {S : yS} {k : Nat} {v : Int32} (hk : k < 53) (ha : mA k = false) : (mF ad S).set k (.int v) = mF ad (mset S k 0 v) := by
  apply List.ext_getElem?
  intro j
  by_cases hj : j < 53
  · rw [mF_get hj]
    by_cases e : k = j
    · subst e
      rw [List.getElem?_set_self (by rw [mF_len]; exact hk)]
      simp [mV, ha, mset_same]
    · rw [List.getElem?_set_ne e, mF_get hj]
      have : j ≠ k := fun q => e q.symm
      simp only [mV, mset_ne S v this]
  · rw [List.getElem?_eq_none (by rw [List.length_set, mF_len]; omega), List.getElem?_eq_none (by rw [mF_len]; omega)]
theorem mF_arr {ad : Nat → Nat} {S : yS} {k j : Nat} {v : Int32} (ha : mA k = true) : mF ad (mset S k j v) = mF ad S := by
  unfold mF
  refine List.map_congr_left (fun i _ => ?_)
  unfold mV
  by_cases e : i = k
  · subst e
    rw [if_pos ha, if_pos ha]
  · rw [mset_ne S v e]
theorem yMR_put {dA : Nat → ClassId} {ad : Nat → Nat} {m0 : Nat} {S : yS} {h : yH} (hR : yMR dA ad m0 S h) {k : Nat} {v : Int32} (hk : k < 53) (ha : mA k = false) : yMR dA ad m0 (mset S k 0 v) (va_up h m0 (some (.inr (10, (mF ad S).set k (.int v))))) := by
  obtain ⟨h1, h2, h3⟩ := hR
  refine ⟨by rw [mF_set hk ha]; simp [va_up], fun j hj hja => ?_, h3⟩
  have e : j ≠ k := fun q => by subst q; rw [ha] at hja; cases hja
  have e2 : ad j ≠ m0 := fun q => by
    have := h2 j hj hja
    rw [q, h1] at this
    cases this
  rw [mset_ne S v e]
  simp only [va_up, if_neg e2]
  exact h2 j hj hja
theorem yMR_ast {dA : Nat → ClassId} {ad : Nat → Nat} {m0 : Nat} {S : yS} {h : yH} (hR : yMR dA ad m0 S h) {k i : Nat} {v : Int32} (hk : k < 53) (ha : mA k = true) : yMR dA ad m0 (mset S k i v) (va_up h (ad k) (some (.inl (dA (mT k), mL k, .inl (upd (S k) i v))))) := by
  obtain ⟨h1, h2, h3⟩ := hR
  have e0 : ad k ≠ m0 := fun q => by
    have := h2 k hk ha
    rw [q, h1] at this
    cases this
  refine ⟨by rw [mF_arr ha]; simp only [va_up, if_neg (Ne.symm e0)]; exact h1, fun j hj hja => ?_, h3⟩
  by_cases e : j = k
  · subst e
    rw [mset_row]
    simp [va_up]
  · have e2 : ad j ≠ ad k := fun q => e (h3 j k hj hk hja ha q)
    rw [mset_ne S v e]
    simp only [va_up, if_neg e2]
    exact h2 j hj hja
theorem yd_fitZ {v : Int32} (h : v = 0 ∨ v = 1) : fits .boolean (.int v) = true := by rcases h with rfl | rfl <;> rfl
theorem yd_vpZ {v : Int32} (h : v = 0 ∨ v = 1) : vp_nar .boolean v = v := by rcases h with rfl | rfl <;> rfl
section MRows
variable {Z : (Nat → Prop) → State → Prop} {D : va_G} {dA : Nat → ClassId} {p : Program} {l : Launch} {e : Env} {R : Room} {s : State} {m : MethodId} {args : Array Value} {below : List Frame} {meth : Method} {c : Code} {cc : ByteArray} {nL : Nat} {own : String} {A : Nat → Prop} {cells slots : Nat} {Q : State → Prop} {pc : Nat} {lv : List (Option Value)} {st : List Value} {h : yH}
variable {ad : Nat → Nat} {m0 : Nat} {S : yS}
theorem ym_get (pc2 : Nat) (C : yC Z D dA p s m args meth c cc nL own A) (hR : yMR dA ad m0 S h) {k idx : Nat} (d : decode cc pc = .ok (.getfield idx, 3)) (hl : yFl own idx 10 k) (hk : k < 53) (ha : mA k = false) (hp : pc + 3 = pc2) (kk : yW p l e R s m args below meth c nL D A cells slots Q pc2 lv (.int (S k 0) :: st) (h)) : yW p l e R s m args below meth c nL D A cells slots Q pc lv (.ref m0 :: st) (h) := yr_get pc2 C d hl hR.1 (by rw [mF_get hk]; simp only [mV, ha]; rfl) hp kk
theorem ym_getA (pc2 : Nat) (C : yC Z D dA p s m args meth c cc nL own A) (hR : yMR dA ad m0 S h) {k idx : Nat} (d : decode cc pc = .ok (.getfield idx, 3)) (hl : yFl own idx 10 k) (hk : k < 53) (ha : mA k = true) (hp : pc + 3 = pc2) (kk : yW p l e R s m args below meth c nL D A cells slots Q pc2 lv (.ref (ad k) :: st) (h)) : yW p l e R s m args below meth c nL D A cells slots Q pc lv (.ref m0 :: st) (h) := yr_get pc2 C d hl hR.1 (by rw [mF_get hk]; simp only [mV, ha]; rfl) hp kk
theorem ym_put (pc2 : Nat) (C : yC Z D dA p s m args meth c cc nL own A) (hR : yMR dA ad m0 S h) {k idx : Nat} {v : Int32} (d : decode cc pc = .ok (.putfield idx, 3)) (hl : yFp own idx 10 k .int false) (hk : k < 53) (ha : mA k = false) (hp : pc + 3 = pc2) (kk : ∀ h : yH, yMR dA ad m0 (mset S k 0 v) h → yW p l e R s m args below meth c nL D A cells slots Q pc2 lv (st) (h)) : yW p l e R s m args below meth c nL D A cells slots Q pc lv (.int v :: .ref m0 :: st) (h) := yr_put pc2 C d hl hR.1 (by rw [mF_len]; exact hk) rfl rfl hp (kk _ (yMR_put hR hk ha))
theorem ym_putZ (pc2 : Nat) (C : yC Z D dA p s m args meth c cc nL own A) (hR : yMR dA ad m0 S h) {k idx : Nat} {v : Int32} (d : decode cc pc = .ok (.putfield idx, 3)) (hl : yFp own idx 10 k .boolean false) (hk : k < 53) (ha : mA k = false) (hv : v = 0 ∨ v = 1) (hp : pc + 3 = pc2) (kk : ∀ h : yH, yMR dA ad m0 (mset S k 0 v) h → yW p l e R s m args below meth c nL D A cells slots Q pc2 lv (st) (h)) : yW p l e R s m args below meth c nL D A cells slots Q pc lv (.int v :: .ref m0 :: st) (h) := yr_put pc2 C d hl hR.1 (by rw [mF_len]; exact hk) (yd_narZ hv) (yd_fitZ hv) hp (kk _ (yMR_put hR hk ha))
theorem ym_ald (pc2 : Nat) (C : yC Z D dA p s m args meth c cc nL own A) (hR : yMR dA ad m0 S h) {k : Nat} {i : Int32} (d : decode cc pc = .ok (.iaload, 1)) (hk : k < 53) (ha : mA k = true) (ht : mT k = 0) (hin : vp_in i (mL k)) (hp : pc + 1 = pc2) (kk : yW p l e R s m args below meth c nL D A cells slots Q pc2 lv (.int (S k i.toNatClampNeg) :: st) (h)) : yW p l e R s m args below meth c nL D A cells slots Q pc lv (.int i :: .ref (ad k) :: st) (h) := yr_iald pc2 C d (by have q := hR.2.1 k hk ha; rw [ht] at q; exact q) hin hp kk
theorem ym_zald (pc2 : Nat) (C : yC Z D dA p s m args meth c cc nL own A) (hR : yMR dA ad m0 S h) {k : Nat} {i : Int32} (d : decode cc pc = .ok (.baload, 1)) (hk : k < 53) (ha : mA k = true) (ht : mT k = 3) (hin : vp_in i (mL k)) (hp : pc + 1 = pc2) (kk : yW p l e R s m args below meth c nL D A cells slots Q pc2 lv (.int (S k i.toNatClampNeg) :: st) (h)) : yW p l e R s m args below meth c nL D A cells slots Q pc lv (.int i :: .ref (ad k) :: st) (h) := yr_zald pc2 C d (by have q := hR.2.1 k hk ha; rw [ht] at q; exact q) hin hp kk
theorem ym_ast (pc2 : Nat) (C : yC Z D dA p s m args meth c cc nL own A) (hR : yMR dA ad m0 S h) {k : Nat} {i x : Int32} (d : decode cc pc = .ok (.iastore, 1)) (hk : k < 53) (ha : mA k = true) (ht : mT k = 0) (hin : vp_in i (mL k)) (hp : pc + 1 = pc2) (kk : ∀ h : yH, yMR dA ad m0 (mset S k i.toNatClampNeg x) h → yW p l e R s m args below meth c nL D A cells slots Q pc2 lv (st) (h)) : yW p l e R s m args below meth c nL D A cells slots Q pc lv (.int x :: .int i :: .ref (ad k) :: st) (h) := yr_iast pc2 C d (by have q := hR.2.1 k hk ha; rw [ht] at q; exact q) hin hp (kk _ (by have q := yMR_ast hR (i := i.toNatClampNeg) (v := x) hk ha; rw [ht] at q; exact q))
theorem ym_zast (pc2 : Nat) (C : yC Z D dA p s m args meth c cc nL own A) (hR : yMR dA ad m0 S h) {k : Nat} {i x : Int32} (d : decode cc pc = .ok (.bastore, 1)) (hk : k < 53) (ha : mA k = true) (ht : mT k = 3) (hin : vp_in i (mL k)) (hx : x = 0 ∨ x = 1) (hp : pc + 1 = pc2) (kk : ∀ h : yH, yMR dA ad m0 (mset S k i.toNatClampNeg x) h → yW p l e R s m args below meth c nL D A cells slots Q pc2 lv (st) (h)) : yW p l e R s m args below meth c nL D A cells slots Q pc lv (.int x :: .int i :: .ref (ad k) :: st) (h) := yr_zast pc2 C d (by have q := hR.2.1 k hk ha; rw [ht] at q; exact q) hin hp (kk _ (by rw [yd_vpZ hx]; have q := yMR_ast hR (i := i.toNatClampNeg) (v := x) hk ha; rw [ht] at q; exact q))
end MRows
