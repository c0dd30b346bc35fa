theorem yd_narZ {v : Int32} (h : v = 0 ∨ v = 1) : narrow .boolean (.int v) = .int v := by rcases h with rfl | rfl <;> rfl
section Rows2
variable {Z : (Nat → Prop) → State → Prop} {D : va_G} {dA : Nat → ClassId} {p : Program} {l : Launch} {e : Env} {R : Room} {s : State} {m : MethodId} {args : Array Value} {below : List Frame} {meth : Method} {c : Code} {cc : ByteArray} {nL : Nat} {own : String} {A : Nat → Prop} {cells slots : Nat} {Q : State → Prop} {pc : Nat} {lv : List (Option Value)} {st : List Value} {h : yH}
theorem yr_iadd (pc2 : Nat) (C : yC Z D dA p s m args meth c cc nL own A) {x y : Int32} (d : decode cc pc = .ok (.iadd, 1)) (hp : pc + 1 = pc2) (k : yW p l e R s m args below meth c nL D A cells slots Q pc2 lv (.int (x + y) :: st) (h)) : yW p l e R s m args below meth c nL D A cells slots Q pc lv (.int y :: .int x :: st) (h) := fun H locs ls a b w => by
  subst hp
  exact lv_iadd C.1 C.2.1 d (k H locs ls a b w)
theorem yr_isub (pc2 : Nat) (C : yC Z D dA p s m args meth c cc nL own A) {x y : Int32} (d : decode cc pc = .ok (.isub, 1)) (hp : pc + 1 = pc2) (k : yW p l e R s m args below meth c nL D A cells slots Q pc2 lv (.int (x - y) :: st) (h)) : yW p l e R s m args below meth c nL D A cells slots Q pc lv (.int y :: .int x :: st) (h) := fun H locs ls a b w => by
  subst hp
  exact lv_isub C.1 C.2.1 d (k H locs ls a b w)
theorem yr_imul (pc2 : Nat) (C : yC Z D dA p s m args meth c cc nL own A) {x y : Int32} (d : decode cc pc = .ok (.imul, 1)) (hp : pc + 1 = pc2) (k : yW p l e R s m args below meth c nL D A cells slots Q pc2 lv (.int (x * y) :: st) (h)) : yW p l e R s m args below meth c nL D A cells slots Q pc lv (.int y :: .int x :: st) (h) := fun H locs ls a b w => by
  subst hp
  exact lv_imul C.1 C.2.1 d (k H locs ls a b w)
theorem yr_iand (pc2 : Nat) (C : yC Z D dA p s m args meth c cc nL own A) {x y : Int32} (d : decode cc pc = .ok (.iand, 1)) (hp : pc + 1 = pc2) (k : yW p l e R s m args below meth c nL D A cells slots Q pc2 lv (.int (x &&& y) :: st) (h)) : yW p l e R s m args below meth c nL D A cells slots Q pc lv (.int y :: .int x :: st) (h) := fun H locs ls a b w => by
  subst hp
  exact lv_iand C.1 C.2.1 d (k H locs ls a b w)
theorem yr_ior (pc2 : Nat) (C : yC Z D dA p s m args meth c cc nL own A) {x y : Int32} (d : decode cc pc = .ok (.ior, 1)) (hp : pc + 1 = pc2) (k : yW p l e R s m args below meth c nL D A cells slots Q pc2 lv (.int (x ||| y) :: st) (h)) : yW p l e R s m args below meth c nL D A cells slots Q pc lv (.int y :: .int x :: st) (h) := fun H locs ls a b w => by
  subst hp
  exact lv_ior C.1 C.2.1 d (k H locs ls a b w)
theorem yr_ixor (pc2 : Nat) (C : yC Z D dA p s m args meth c cc nL own A) {x y : Int32} (d : decode cc pc = .ok (.ixor, 1)) (hp : pc + 1 = pc2) (k : yW p l e R s m args below meth c nL D A cells slots Q pc2 lv (.int (x ^^^ y) :: st) (h)) : yW p l e R s m args below meth c nL D A cells slots Q pc lv (.int y :: .int x :: st) (h) := fun H locs ls a b w => by
  subst hp
  exact lv_ixor C.1 C.2.1 d (k H locs ls a b w)
theorem yr_ishr (pc2 : Nat) (C : yC Z D dA p s m args meth c cc nL own A) {x y : Int32} (d : decode cc pc = .ok (.ishr, 1)) (hp : pc + 1 = pc2) (k : yW p l e R s m args below meth c nL D A cells slots Q pc2 lv (.int (x >>> (y &&& 31)) :: st) (h)) : yW p l e R s m args below meth c nL D A cells slots Q pc lv (.int y :: .int x :: st) (h) := fun H locs ls a b w => by
  subst hp
  exact lv_ishr C.1 C.2.1 d (k H locs ls a b w)
theorem yr_idiv (pc2 : Nat) (C : yC Z D dA p s m args meth c cc nL own A) {x y : Int32} (d : decode cc pc = .ok (.idiv, 1)) (hne : ¬ y = 0) (hp : pc + 1 = pc2) (k : yW p l e R s m args below meth c nL D A cells slots Q pc2 lv (.int (x / y) :: st) (h)) : yW p l e R s m args below meth c nL D A cells slots Q pc lv (.int y :: .int x :: st) (h) := fun H locs ls a b w => by
  subst hp
  exact lv_idiv C.1 C.2.1 d hne (k H locs ls a b w)
theorem yr_irem (pc2 : Nat) (C : yC Z D dA p s m args meth c cc nL own A) {x y : Int32} (d : decode cc pc = .ok (.irem, 1)) (hne : ¬ y = 0) (hp : pc + 1 = pc2) (k : yW p l e R s m args below meth c nL D A cells slots Q pc2 lv (.int (x - x / y * y) :: st) (h)) : yW p l e R s m args below meth c nL D A cells slots Q pc lv (.int y :: .int x :: st) (h) := fun H locs ls a b w => by
  subst hp
  exact lv_irem C.1 C.2.1 d hne (k H locs ls a b w)
theorem yr_i2b (pc2 : Nat) (C : yC Z D dA p s m args meth c cc nL own A) {x : Int32} (d : decode cc pc = .ok (.i2b, 1)) (hp : pc + 1 = pc2) (k : yW p l e R s m args below meth c nL D A cells slots Q pc2 lv (.int x.toInt8.toInt32 :: st) (h)) : yW p l e R s m args below meth c nL D A cells slots Q pc lv (.int x :: st) (h) := fun H locs ls a b w => by
  subst hp
  exact lv_i2b C.1 C.2.1 d rfl (k H locs ls a b w)
theorem yr_i2s (pc2 : Nat) (C : yC Z D dA p s m args meth c cc nL own A) {x : Int32} (d : decode cc pc = .ok (.i2s, 1)) (hp : pc + 1 = pc2) (k : yW p l e R s m args below meth c nL D A cells slots Q pc2 lv (.int x.toInt16.toInt32 :: st) (h)) : yW p l e R s m args below meth c nL D A cells slots Q pc lv (.int x :: st) (h) := fun H locs ls a b w => by
  subst hp
  exact lv_i2s C.1 C.2.1 d rfl (k H locs ls a b w)
theorem yr_dup (pc2 : Nat) (C : yC Z D dA p s m args meth c cc nL own A) {v : Value} (d : decode cc pc = .ok (.dup, 1)) (hc : v.category = 1) (hp : pc + 1 = pc2) (k : yW p l e R s m args below meth c nL D A cells slots Q pc2 lv (v :: v :: st) (h)) : yW p l e R s m args below meth c nL D A cells slots Q pc lv (v :: st) (h) := fun H locs ls a b w => by
  subst hp
  exact lv_dup C.1 C.2.1 d hc (k H locs ls a b w)
theorem yr_pop (pc2 : Nat) (C : yC Z D dA p s m args meth c cc nL own A) {v : Value} (d : decode cc pc = .ok (.pop, 1)) (hc : v.category = 1) (hp : pc + 1 = pc2) (k : yW p l e R s m args below meth c nL D A cells slots Q pc2 lv (st) (h)) : yW p l e R s m args below meth c nL D A cells slots Q pc lv (v :: st) (h) := fun H locs ls a b w => by
  subst hp
  exact lv_pop C.1 C.2.1 d hc (k H locs ls a b w)
theorem yr_dup_x1 (pc2 : Nat) (C : yC Z D dA p s m args meth c cc nL own A) {v u : Value} (d : decode cc pc = .ok (.dup_x1, 1)) (hc : v.category = 1) (hd : u.category = 1) (hp : pc + 1 = pc2) (k : yW p l e R s m args below meth c nL D A cells slots Q pc2 lv (v :: u :: v :: st) (h)) : yW p l e R s m args below meth c nL D A cells slots Q pc lv (v :: u :: st) (h) := fun H locs ls a b w => by
  subst hp
  exact lv_dup_x1 C.1 C.2.1 d hc hd (k H locs ls a b w)
theorem yr_dup2 (pc2 : Nat) (C : yC Z D dA p s m args meth c cc nL own A) {v u : Value} (d : decode cc pc = .ok (.dup2, 1)) (hc : v.category = 1) (hd : u.category = 1) (hp : pc + 1 = pc2) (k : yW p l e R s m args below meth c nL D A cells slots Q pc2 lv (v :: u :: v :: u :: st) (h)) : yW p l e R s m args below meth c nL D A cells slots Q pc lv (v :: u :: st) (h) := fun H locs ls a b w => by
  subst hp
  exact lv_dup2_11 C.1 C.2.1 d hc hd (k H locs ls a b w)
theorem yr_if_eq (tgt pc2 : Nat) (C : yC Z D dA p s m args meth c cc nL own A) {x : Int32} {off : Int} (d : decode cc pc = .ok (.ifCond .eq off, 3)) (ht : (pc : Int) + off = (tgt : Int)) (hp : pc + 3 = pc2) (kt : x = 0 → yW p l e R s m args below meth c nL D A cells slots Q tgt lv (st) (h)) (kf : ¬ x = 0 → yW p l e R s m args below meth c nL D A cells slots Q pc2 lv (st) (h)) : yW p l e R s m args below meth c nL D A cells slots Q pc lv (.int x :: st) (h) := fun H locs ls a b w => by
  subst hp
  exact lv_if_eq C.1 C.2.1 d ht (fun q => kt q H locs ls a b w) (fun q => kf q H locs ls a b w)
theorem yr_icmp_eq (tgt pc2 : Nat) (C : yC Z D dA p s m args meth c cc nL own A) {x y : Int32} {off : Int} (d : decode cc pc = .ok (.if_icmp .eq off, 3)) (ht : (pc : Int) + off = (tgt : Int)) (hp : pc + 3 = pc2) (kt : x = y → yW p l e R s m args below meth c nL D A cells slots Q tgt lv (st) (h)) (kf : ¬ x = y → yW p l e R s m args below meth c nL D A cells slots Q pc2 lv (st) (h)) : yW p l e R s m args below meth c nL D A cells slots Q pc lv (.int y :: .int x :: st) (h) := fun H locs ls a b w => by
  subst hp
  exact lv_icmp_eq C.1 C.2.1 d ht (fun q => kt q H locs ls a b w) (fun q => kf q H locs ls a b w)
theorem yr_if_ne (tgt pc2 : Nat) (C : yC Z D dA p s m args meth c cc nL own A) {x : Int32} {off : Int} (d : decode cc pc = .ok (.ifCond .ne off, 3)) (ht : (pc : Int) + off = (tgt : Int)) (hp : pc + 3 = pc2) (kt : ¬ x = 0 → yW p l e R s m args below meth c nL D A cells slots Q tgt lv (st) (h)) (kf : x = 0 → yW p l e R s m args below meth c nL D A cells slots Q pc2 lv (st) (h)) : yW p l e R s m args below meth c nL D A cells slots Q pc lv (.int x :: st) (h) := fun H locs ls a b w => by
  subst hp
  exact lv_if_ne C.1 C.2.1 d ht (fun q => kt q H locs ls a b w) (fun q => kf q H locs ls a b w)
theorem yr_icmp_ne (tgt pc2 : Nat) (C : yC Z D dA p s m args meth c cc nL own A) {x y : Int32} {off : Int} (d : decode cc pc = .ok (.if_icmp .ne off, 3)) (ht : (pc : Int) + off = (tgt : Int)) (hp : pc + 3 = pc2) (kt : ¬ x = y → yW p l e R s m args below meth c nL D A cells slots Q tgt lv (st) (h)) (kf : x = y → yW p l e R s m args below meth c nL D A cells slots Q pc2 lv (st) (h)) : yW p l e R s m args below meth c nL D A cells slots Q pc lv (.int y :: .int x :: st) (h) := fun H locs ls a b w => by
  subst hp
  exact lv_icmp_ne C.1 C.2.1 d ht (fun q => kt q H locs ls a b w) (fun q => kf q H locs ls a b w)
theorem yr_if_lt (tgt pc2 : Nat) (C : yC Z D dA p s m args meth c cc nL own A) {x : Int32} {off : Int} (d : decode cc pc = .ok (.ifCond .lt off, 3)) (ht : (pc : Int) + off = (tgt : Int)) (hp : pc + 3 = pc2) (kt : x < 0 → yW p l e R s m args below meth c nL D A cells slots Q tgt lv (st) (h)) (kf : ¬ x < 0 → yW p l e R s m args below meth c nL D A cells slots Q pc2 lv (st) (h)) : yW p l e R s m args below meth c nL D A cells slots Q pc lv (.int x :: st) (h) := fun H locs ls a b w => by
  subst hp
  exact lv_if_lt C.1 C.2.1 d ht (fun q => kt q H locs ls a b w) (fun q => kf q H locs ls a b w)
theorem yr_icmp_lt (tgt pc2 : Nat) (C : yC Z D dA p s m args meth c cc nL own A) {x y : Int32} {off : Int} (d : decode cc pc = .ok (.if_icmp .lt off, 3)) (ht : (pc : Int) + off = (tgt : Int)) (hp : pc + 3 = pc2) (kt : x < y → yW p l e R s m args below meth c nL D A cells slots Q tgt lv (st) (h)) (kf : ¬ x < y → yW p l e R s m args below meth c nL D A cells slots Q pc2 lv (st) (h)) : yW p l e R s m args below meth c nL D A cells slots Q pc lv (.int y :: .int x :: st) (h) := fun H locs ls a b w => by
  subst hp
  exact lv_icmp_lt C.1 C.2.1 d ht (fun q => kt q H locs ls a b w) (fun q => kf q H locs ls a b w)
theorem yr_if_ge (tgt pc2 : Nat) (C : yC Z D dA p s m args meth c cc nL own A) {x : Int32} {off : Int} (d : decode cc pc = .ok (.ifCond .ge off, 3)) (ht : (pc : Int) + off = (tgt : Int)) (hp : pc + 3 = pc2) (kt : 0 ≤ x → yW p l e R s m args below meth c nL D A cells slots Q tgt lv (st) (h)) (kf : ¬ 0 ≤ x → yW p l e R s m args below meth c nL D A cells slots Q pc2 lv (st) (h)) : yW p l e R s m args below meth c nL D A cells slots Q pc lv (.int x :: st) (h) := fun H locs ls a b w => by
  subst hp
  exact lv_if_ge C.1 C.2.1 d ht (fun q => kt q H locs ls a b w) (fun q => kf q H locs ls a b w)
theorem yr_icmp_ge (tgt pc2 : Nat) (C : yC Z D dA p s m args meth c cc nL own A) {x y : Int32} {off : Int} (d : decode cc pc = .ok (.if_icmp .ge off, 3)) (ht : (pc : Int) + off = (tgt : Int)) (hp : pc + 3 = pc2) (kt : y ≤ x → yW p l e R s m args below meth c nL D A cells slots Q tgt lv (st) (h)) (kf : ¬ y ≤ x → yW p l e R s m args below meth c nL D A cells slots Q pc2 lv (st) (h)) : yW p l e R s m args below meth c nL D A cells slots Q pc lv (.int y :: .int x :: st) (h) := fun H locs ls a b w => by
  subst hp
  exact lv_icmp_ge C.1 C.2.1 d ht (fun q => kt q H locs ls a b w) (fun q => kf q H locs ls a b w)
theorem yr_if_gt (tgt pc2 : Nat) (C : yC Z D dA p s m args meth c cc nL own A) {x : Int32} {off : Int} (d : decode cc pc = .ok (.ifCond .gt off, 3)) (ht : (pc : Int) + off = (tgt : Int)) (hp : pc + 3 = pc2) (kt : 0 < x → yW p l e R s m args below meth c nL D A cells slots Q tgt lv (st) (h)) (kf : ¬ 0 < x → yW p l e R s m args below meth c nL D A cells slots Q pc2 lv (st) (h)) : yW p l e R s m args below meth c nL D A cells slots Q pc lv (.int x :: st) (h) := fun H locs ls a b w => by
  subst hp
  exact lv_if_gt C.1 C.2.1 d ht (fun q => kt q H locs ls a b w) (fun q => kf q H locs ls a b w)
theorem yr_icmp_gt (tgt pc2 : Nat) (C : yC Z D dA p s m args meth c cc nL own A) {x y : Int32} {off : Int} (d : decode cc pc = .ok (.if_icmp .gt off, 3)) (ht : (pc : Int) + off = (tgt : Int)) (hp : pc + 3 = pc2) (kt : y < x → yW p l e R s m args below meth c nL D A cells slots Q tgt lv (st) (h)) (kf : ¬ y < x → yW p l e R s m args below meth c nL D A cells slots Q pc2 lv (st) (h)) : yW p l e R s m args below meth c nL D A cells slots Q pc lv (.int y :: .int x :: st) (h) := fun H locs ls a b w => by
  subst hp
  exact lv_icmp_gt C.1 C.2.1 d ht (fun q => kt q H locs ls a b w) (fun q => kf q H locs ls a b w)
theorem yr_if_le (tgt pc2 : Nat) (C : yC Z D dA p s m args meth c cc nL own A) {x : Int32} {off : Int} (d : decode cc pc = .ok (.ifCond .le off, 3)) (ht : (pc : Int) + off = (tgt : Int)) (hp : pc + 3 = pc2) (kt : x ≤ 0 → yW p l e R s m args below meth c nL D A cells slots Q tgt lv (st) (h)) (kf : ¬ x ≤ 0 → yW p l e R s m args below meth c nL D A cells slots Q pc2 lv (st) (h)) : yW p l e R s m args below meth c nL D A cells slots Q pc lv (.int x :: st) (h) := fun H locs ls a b w => by
  subst hp
  exact lv_if_le C.1 C.2.1 d ht (fun q => kt q H locs ls a b w) (fun q => kf q H locs ls a b w)
theorem yr_icmp_le (tgt pc2 : Nat) (C : yC Z D dA p s m args meth c cc nL own A) {x y : Int32} {off : Int} (d : decode cc pc = .ok (.if_icmp .le off, 3)) (ht : (pc : Int) + off = (tgt : Int)) (hp : pc + 3 = pc2) (kt : x ≤ y → yW p l e R s m args below meth c nL D A cells slots Q tgt lv (st) (h)) (kf : ¬ x ≤ y → yW p l e R s m args below meth c nL D A cells slots Q pc2 lv (st) (h)) : yW p l e R s m args below meth c nL D A cells slots Q pc lv (.int y :: .int x :: st) (h) := fun H locs ls a b w => by
  subst hp
  exact lv_icmp_le C.1 C.2.1 d ht (fun q => kt q H locs ls a b w) (fun q => kf q H locs ls a b w)
theorem yr_goto (tgt : Nat) (C : yC Z D dA p s m args meth c cc nL own A) {off : Int} (d : decode cc pc = .ok (.goto off, 3)) (ht : (pc : Int) + off = (tgt : Int)) (k : yW p l e R s m args below meth c nL D A cells slots Q tgt lv (st) (h)) : yW p l e R s m args below meth c nL D A cells slots Q pc lv (st) (h) := fun H locs ls a b w => lv_goto C.1 C.2.1 d ht (k H locs ls a b w)
theorem yr_acmp_eq (tgt pc2 : Nat) (C : yC Z D dA p s m args meth c cc nL own A) {x y : Option Nat} {off : Int} (d : decode cc pc = .ok (.if_acmp .eq off, 3)) (ht : (pc : Int) + off = (tgt : Int)) (hp : pc + 3 = pc2) (kt : x = y → yW p l e R s m args below meth c nL D A cells slots Q tgt lv (st) (h)) (kf : ¬ x = y → yW p l e R s m args below meth c nL D A cells slots Q pc2 lv (st) (h)) : yW p l e R s m args below meth c nL D A cells slots Q pc lv (va_rf y :: va_rf x :: st) (h) := fun H locs ls a b w => by
  subst hp
  exact lv_acmp_eq C.1 C.2.1 d ht (fun q => kt q H locs ls a b w) (fun q => kf q H locs ls a b w)
theorem yr_acmp_ne (tgt pc2 : Nat) (C : yC Z D dA p s m args meth c cc nL own A) {x y : Option Nat} {off : Int} (d : decode cc pc = .ok (.if_acmp .ne off, 3)) (ht : (pc : Int) + off = (tgt : Int)) (hp : pc + 3 = pc2) (kt : ¬ x = y → yW p l e R s m args below meth c nL D A cells slots Q tgt lv (st) (h)) (kf : x = y → yW p l e R s m args below meth c nL D A cells slots Q pc2 lv (st) (h)) : yW p l e R s m args below meth c nL D A cells slots Q pc lv (va_rf y :: va_rf x :: st) (h) := fun H locs ls a b w => by
  subst hp
  exact lv_acmp_ne C.1 C.2.1 d ht (fun q => kt q H locs ls a b w) (fun q => kf q H locs ls a b w)
theorem yr_ifnull_r (pc2 : Nat) (C : yC Z D dA p s m args meth c cc nL own A) {x : Nat} {off : Int} (d : decode cc pc = .ok (.ifnull off, 3)) (hp : pc + 3 = pc2) (k : yW p l e R s m args below meth c nL D A cells slots Q pc2 lv (st) (h)) : yW p l e R s m args below meth c nL D A cells slots Q pc lv (.ref x :: st) (h) := fun H locs ls a b w => by
  subst hp
  exact lv_ifnull C.1 C.2.1 d (k H locs ls a b w)
theorem yr_ifnull_n (tgt : Nat) (C : yC Z D dA p s m args meth c cc nL own A) {off : Int} (d : decode cc pc = .ok (.ifnull off, 3)) (ht : (pc : Int) + off = (tgt : Int)) (k : yW p l e R s m args below meth c nL D A cells slots Q tgt lv (st) (h)) : yW p l e R s m args below meth c nL D A cells slots Q pc lv (.null :: st) (h) := fun H locs ls a b w => lv_ifnullN C.1 C.2.1 d ht (k H locs ls a b w)
theorem yr_ifnonnull_r (tgt : Nat) (C : yC Z D dA p s m args meth c cc nL own A) {x : Nat} {off : Int} (d : decode cc pc = .ok (.ifnonnull off, 3)) (ht : (pc : Int) + off = (tgt : Int)) (k : yW p l e R s m args below meth c nL D A cells slots Q tgt lv (st) (h)) : yW p l e R s m args below meth c nL D A cells slots Q pc lv (.ref x :: st) (h) := fun H locs ls a b w => lv_ifnonnull C.1 C.2.1 d ht (k H locs ls a b w)
theorem yr_ifnonnull_n (pc2 : Nat) (C : yC Z D dA p s m args meth c cc nL own A) {off : Int} (d : decode cc pc = .ok (.ifnonnull off, 3)) (hp : pc + 3 = pc2) (k : yW p l e R s m args below meth c nL D A cells slots Q pc2 lv (st) (h)) : yW p l e R s m args below meth c nL D A cells slots Q pc lv (.null :: st) (h) := fun H locs ls a b w => by
  subst hp
  exact lv_ifnonnullN C.1 C.2.1 d (k H locs ls a b w)
theorem yr_tabIn (tgt : Nat) (C : yC Z D dA p s m args meth c cc nL own A) {dflt lo hi : Int} {offs : Array Int} {len : Nat} {x : Int32} {off : Int} (d : decode cc pc = .ok (.tableswitch dflt lo hi offs, len)) (h1 : ¬ x.toInt < lo) (h2 : ¬ hi < x.toInt) (ho : offs[(x.toInt - lo).toNat]? = some off) (ht : (pc : Int) + off = (tgt : Int)) (k : yW p l e R s m args below meth c nL D A cells slots Q tgt lv (st) (h)) : yW p l e R s m args below meth c nL D A cells slots Q pc lv (.int x :: st) (h) := fun H locs ls a b w => lv_tableIn C.1 C.2.1 d h1 h2 ho ht (k H locs ls a b w)
theorem yr_tabOut (tgt : Nat) (C : yC Z D dA p s m args meth c cc nL own A) {dflt lo hi : Int} {offs : Array Int} {len : Nat} {x : Int32} (d : decode cc pc = .ok (.tableswitch dflt lo hi offs, len)) (h1 : x.toInt < lo ∨ hi < x.toInt) (ht : (pc : Int) + dflt = (tgt : Int)) (k : yW p l e R s m args below meth c nL D A cells slots Q tgt lv (st) (h)) : yW p l e R s m args below meth c nL D A cells slots Q pc lv (.int x :: st) (h) := fun H locs ls a b w => lv_tableOut C.1 C.2.1 d h1 ht (k H locs ls a b w)
theorem yr_look (tgt : Nat) (C : yC Z D dA p s m args meth c cc nL own A) {dflt : Int} {ps : Array (Int × Int)} {len : Nat} {x : Int32} {off : Int} (d : decode cc pc = .ok (.lookupswitch dflt ps, len)) (hs : (ps.toList.zip (ps.toList.drop 1)).all (fun (a, next) => a.1 < next.1) = true) (ho : Op.lookupswitch.offset ps.toList dflt x.toInt = off) (ht : (pc : Int) + off = (tgt : Int)) (k : yW p l e R s m args below meth c nL D A cells slots Q tgt lv (st) (h)) : yW p l e R s m args below meth c nL D A cells slots Q pc lv (.int x :: st) (h) := fun H locs ls a b w => lv_lookup C.1 C.2.1 d hs ho ht (k H locs ls a b w)
theorem yr_widen {k1 n1 : Nat} (h1 : cells ≤ k1) (h2 : slots ≤ n1) (k : yW p l e R s m args below meth c nL D A k1 n1 Q pc lv (st) (h)) : yW p l e R s m args below meth c nL D A cells slots Q pc lv (st) (h) := fun H locs ls a b w => W.widen h1 h2 (k H locs ls a b w)
theorem yr_iret (C : yC Z D dA p s m args meth c cc nL own A) {QQ : Option Value → yH → Prop} {mc ms : Nat} {v : Int32} (d : decode cc pc = .ok (.ireturn, 1)) (hr : meth.sig.returnType = some .int) (h1 : cells ≤ mc) (h2 : slots ≤ ms) (hq : QQ (some (.int v)) h) : yW p l e R s m args below meth c nL D A cells slots (yF D A QQ below args s mc ms) pc lv ([.int v]) (h) := fun H locs ls a b w => by
  refine W.widen h1 h2 ?_
  exact W.iret C.1 C.2.1 hr (fun t ht hW => ⟨⟨_, h, rfl, hq, by rw [ht]; exact b⟩, w.F ht⟩) w.2.2 d C.2.2.2.2.2.2.1
theorem yr_zret (C : yC Z D dA p s m args meth c cc nL own A) {QQ : Option Value → yH → Prop} {mc ms : Nat} {v : Int32} (d : decode cc pc = .ok (.ireturn, 1)) (hr : meth.sig.returnType = some .boolean) (hv : v = 0 ∨ v = 1) (h1 : cells ≤ mc) (h2 : slots ≤ ms) (hq : QQ (some (.int v)) h) : yW p l e R s m args below meth c nL D A cells slots (yF D A QQ below args s mc ms) pc lv ([.int v]) (h) := fun H locs ls a b w => by
  refine W.widen h1 h2 ?_
  exact W.zret C.1 C.2.1 hr (yd_narZ hv) (fun t ht hW => ⟨⟨_, h, rfl, hq, by rw [ht]; exact b⟩, w.F ht⟩) w.2.2 d C.2.2.2.2.2.2.1
theorem yr_vret (C : yC Z D dA p s m args meth c cc nL own A) {QQ : Option Value → yH → Prop} {mc ms : Nat} (d : decode cc pc = .ok (.return_, 1)) (hr : meth.sig.returnType = none) (h1 : cells ≤ mc) (h2 : slots ≤ ms) (hq : QQ none h) : yW p l e R s m args below meth c nL D A cells slots (yF D A QQ below args s mc ms) pc lv ([]) (h) := fun H locs ls a b w => by
  refine W.widen h1 h2 ?_
  exact W.vret C.1 C.2.1 hr (fun t ht hW => ⟨⟨_, h, rfl, hq, by rw [ht]; exact b⟩, w.F ht⟩) w.2.2 d C.2.2.2.2.2.2.1
theorem yr_aret (C : yC Z D dA p s m args meth c cc nL own A) {QQ : Option Value → yH → Prop} {mc ms : Nat} {v : Value} {rt : FieldType} (d : decode cc pc = .ok (.areturn, 1)) (hr : meth.sig.returnType = some rt) (hrt : (∃ n, rt = .object n) ∨ ∃ t, rt = .array t) (hv : yd_isref v = true) (h1 : cells ≤ mc) (h2 : slots ≤ ms) (hq : QQ (some v) h) : yW p l e R s m args below meth c nL D A cells slots (yF D A QQ below args s mc ms) pc lv ([v]) (h) := fun H locs ls a b w => by
  refine W.widen h1 h2 ?_
  exact W.aret C.1 C.2.1 hr hrt (yd_isref_or hv) (fun t ht hW => ⟨⟨_, h, rfl, hq, by rw [ht]; exact b⟩, w.F ht⟩) w.2.2 d C.2.2.2.2.2.2.1
/-- a link to a field: of the class number ci of vwCl the field k -/
def yFl (own : String) (idx ci k : Nat) : Prop := ∃ (R : String) (T : u_T) (N : Nat), vwCl[ci]? = some (R, T, N) ∧ k < N ∧ (∀ w ∈ u_ws R T N, w ∈ yTs) ∧ Cond.fieldLink own idx (T k).1 (T k).2.1 (T k).2.2.1 ∈ yTs
/-- the same, of a field that may be written, of type ty -/
def yFp (own : String) (idx ci k : Nat) (ty : FieldType) (fin : Bool) : Prop := ∃ (R : String) (T : u_T) (N : Nat) (tt : Nat → FieldType), vwCl[ci]? = some (R, T, N) ∧ k < N ∧ (∀ w ∈ u_ws R T N, w ∈ yTs) ∧ Cond.fieldLink own idx (T k).1 (T k).2.1 (T k).2.2.1 ∈ yTs ∧ (∀ j, j < N → parseFieldDescriptor (T j).2.2.1 = some (tt j)) ∧ (∀ a, a < N → ∀ b, b < N → a ≠ b → (T a).2.1 ≠ (T b).2.1) ∧ tt k = ty ∧ (T k).2.2.2 = fin ∧ (fin = true → (T k).1 = own)
theorem yr_get (pc2 : Nat) (C : yC Z D dA p s m args meth c cc nL own A) {idx ci k a : Nat} {fs : List Value} {v : Value} (d : decode cc pc = .ok (.getfield idx, 3)) (hl : yFl own idx ci k) (ha : h a = some (.inr (ci, fs))) (hv : fs[k]? = some v) (hp : pc + 3 = pc2) (k : yW p l e R s m args below meth c nL D A cells slots Q pc2 lv (v :: st) (h)) : yW p l e R s m args below meth c nL D A cells slots Q pc lv (.ref a :: st) (h) := fun H locs ls a1 b w => by
  subst hp
  obtain ⟨Rn, T, N, e1, e2, e3, e4⟩ := hl
  obtain ⟨ws, q0, hP, hD, hq, -⟩ := yd_pos b ha
  exact va_get C.1 C.2.1 C.2.2.2.2.1 e3 C.2.2.2.1 C.2.2.2.2.2.1 hP q0 hq e1 _ e2 (C.2.2.2.2.1 _ e4) (fun _ q => q) hv d (k H locs ls a1 b w)
theorem yr_put (pc2 : Nat) (C : yC Z D dA p s m args meth c cc nL own A) {idx ci k a : Nat} {fs : List Value} {v : Value} {ty : FieldType} (d : decode cc pc = .ok (.putfield idx, 3)) (hl : yFp own idx ci k ty false) (ha : h a = some (.inr (ci, fs))) (hlen : k < fs.length) (hn : narrow ty v = v) (hf : fits ty v = true) (hp : pc + 3 = pc2) (kk : yW p l e R s m args below meth c nL D A cells slots Q pc2 lv (st) (va_up h a (some (.inr (ci, fs.set k v))))) : yW p l e R s m args below meth c nL D A cells slots Q pc lv (v :: .ref a :: st) (h) := fun H locs ls a1 b w => by
  subst hp
  obtain ⟨Rn, T, N, tt, e1, e2, e3, e4, e5, e6, rfl, e8, -⟩ := hl
  obtain ⟨ws, q0, hP, hD, hq, hset, -⟩ := yd_pos b ha
  exact va_put C.1 C.2.1 C.2.2.2.2.1 e3 tt e5 e6 C.2.2.2.1 C.2.2.2.2.2.1 hP hD w q0 hq e1 k e2 (C.2.2.2.2.1 _ e4) (fun _ q => q) e8 (e5 k e2) hn hf hlen d (fun H1 locs1 hP1 hD1 hS1 => kk H1 locs1 ls a1 (hset _ H1 hP1 hD1) hS1)
theorem yr_putF (pc2 : Nat) (C : yC Z D dA p s m args meth c cc nL own A) (hin : meth.name = "<init>") {idx ci k a : Nat} {fs : List Value} {v : Value} {ty : FieldType} (d : decode cc pc = .ok (.putfield idx, 3)) (hl : yFp own idx ci k ty true) (ha : h a = some (.inr (ci, fs))) (hlen : k < fs.length) (hn : narrow ty v = v) (hf : fits ty v = true) (hp : pc + 3 = pc2) (kk : yW p l e R s m args below meth c nL D A cells slots Q pc2 lv (st) (va_up h a (some (.inr (ci, fs.set k v))))) : yW p l e R s m args below meth c nL D A cells slots Q pc lv (v :: .ref a :: st) (h) := fun H locs ls a1 b w => by
  subst hp
  obtain ⟨Rn, T, N, tt, e1, e2, e3, e4, e5, e6, rfl, e8, e9⟩ := hl
  obtain ⟨ws, q0, hP, hD, hq, hset, -⟩ := yd_pos b ha
  exact va_putF C.1 C.2.1 C.2.2.2.2.1 e3 tt e5 e6 C.2.2.2.1 C.2.2.2.2.2.1 hP hD w q0 hq e1 k e2 (C.2.2.2.2.1 _ e4) (fun _ q => q) e8 hin (e9 rfl) (e5 k e2) hn hf hlen d (fun H1 locs1 hP1 hD1 hS1 => kk H1 locs1 ls a1 (hset _ H1 hP1 hD1) hS1)
theorem yr_iald (pc2 : Nat) (C : yC Z D dA p s m args meth c cc nL own A) {a n : Nat} {f : Nat → Int32} {i : Int32} (d : decode cc pc = .ok (.iaload, 1)) (ha : h a = some (.inl (dA 0, n, .inl f))) (hin : vp_in i n) (hp : pc + 1 = pc2) (k : yW p l e R s m args below meth c nL D A cells slots Q pc2 lv (.int (f i.toNatClampNeg) :: st) (h)) : yW p l e R s m args below meth c nL D A cells slots Q pc lv (.int i :: .ref a :: st) (h) := fun H locs ls a1 b w => by
  subst hp
  obtain ⟨ws, q0, hP, hD, hq, -⟩ := yd_pos b ha
  exact va_iald C.1 C.2.1 C.2.2.2.2.2.1 hP q0 0 hq rfl hin d (k H locs ls a1 b w)
theorem yr_iast (pc2 : Nat) (C : yC Z D dA p s m args meth c cc nL own A) {a n : Nat} {f : Nat → Int32} {i x : Int32} (d : decode cc pc = .ok (.iastore, 1)) (ha : h a = some (.inl (dA 0, n, .inl f))) (hin : vp_in i n) (hp : pc + 1 = pc2) (k : yW p l e R s m args below meth c nL D A cells slots Q pc2 lv (st) (va_up h a (some (.inl (dA 0, n, .inl (upd f i.toNatClampNeg x)))))) : yW p l e R s m args below meth c nL D A cells slots Q pc lv (.int x :: .int i :: .ref a :: st) (h) := fun H locs ls a1 b w => by
  subst hp
  obtain ⟨ws, q0, hP, hD, hq, hset, -⟩ := yd_pos b ha
  exact va_iast C.1 C.2.1 C.2.2.2.2.2.1 hP hD w q0 0 hq rfl hin d (fun H1 locs1 hP1 hD1 hS1 => k H1 locs1 ls a1 (hset _ H1 hP1 hD1) hS1)
theorem yr_bald (pc2 : Nat) (C : yC Z D dA p s m args meth c cc nL own A) {a n : Nat} {f : Nat → Int32} {i : Int32} (d : decode cc pc = .ok (.baload, 1)) (ha : h a = some (.inl (dA 1, n, .inl f))) (hin : vp_in i n) (hp : pc + 1 = pc2) (k : yW p l e R s m args below meth c nL D A cells slots Q pc2 lv (.int (f i.toNatClampNeg) :: st) (h)) : yW p l e R s m args below meth c nL D A cells slots Q pc lv (.int i :: .ref a :: st) (h) := fun H locs ls a1 b w => by
  subst hp
  obtain ⟨ws, q0, hP, hD, hq, -⟩ := yd_pos b ha
  exact va_bald C.1 C.2.1 C.2.2.2.2.2.1 hP q0 1 hq rfl hin d (k H locs ls a1 b w)
theorem yr_bast (pc2 : Nat) (C : yC Z D dA p s m args meth c cc nL own A) {a n : Nat} {f : Nat → Int32} {i x : Int32} (d : decode cc pc = .ok (.bastore, 1)) (ha : h a = some (.inl (dA 1, n, .inl f))) (hin : vp_in i n) (hp : pc + 1 = pc2) (k : yW p l e R s m args below meth c nL D A cells slots Q pc2 lv (st) (va_up h a (some (.inl (dA 1, n, .inl (upd f i.toNatClampNeg (vp_nar .byte x))))))) : yW p l e R s m args below meth c nL D A cells slots Q pc lv (.int x :: .int i :: .ref a :: st) (h) := fun H locs ls a1 b w => by
  subst hp
  obtain ⟨ws, q0, hP, hD, hq, hset, -⟩ := yd_pos b ha
  exact va_bast C.1 C.2.1 C.2.2.2.2.2.1 hP hD w q0 1 hq rfl hin d (fun H1 locs1 hP1 hD1 hS1 => k H1 locs1 ls a1 (hset _ H1 hP1 hD1) hS1)
theorem yr_sald (pc2 : Nat) (C : yC Z D dA p s m args meth c cc nL own A) {a n : Nat} {f : Nat → Int32} {i : Int32} (d : decode cc pc = .ok (.saload, 1)) (ha : h a = some (.inl (dA 2, n, .inl f))) (hin : vp_in i n) (hp : pc + 1 = pc2) (k : yW p l e R s m args below meth c nL D A cells slots Q pc2 lv (.int (f i.toNatClampNeg) :: st) (h)) : yW p l e R s m args below meth c nL D A cells slots Q pc lv (.int i :: .ref a :: st) (h) := fun H locs ls a1 b w => by
  subst hp
  obtain ⟨ws, q0, hP, hD, hq, -⟩ := yd_pos b ha
  exact va_sald C.1 C.2.1 C.2.2.2.2.2.1 hP q0 2 hq rfl hin d (k H locs ls a1 b w)
theorem yr_sast (pc2 : Nat) (C : yC Z D dA p s m args meth c cc nL own A) {a n : Nat} {f : Nat → Int32} {i x : Int32} (d : decode cc pc = .ok (.sastore, 1)) (ha : h a = some (.inl (dA 2, n, .inl f))) (hin : vp_in i n) (hp : pc + 1 = pc2) (k : yW p l e R s m args below meth c nL D A cells slots Q pc2 lv (st) (va_up h a (some (.inl (dA 2, n, .inl (upd f i.toNatClampNeg (vp_nar .short x))))))) : yW p l e R s m args below meth c nL D A cells slots Q pc lv (.int x :: .int i :: .ref a :: st) (h) := fun H locs ls a1 b w => by
  subst hp
  obtain ⟨ws, q0, hP, hD, hq, hset, -⟩ := yd_pos b ha
  exact va_sast C.1 C.2.1 C.2.2.2.2.2.1 hP hD w q0 2 hq rfl hin d (fun H1 locs1 hP1 hD1 hS1 => k H1 locs1 ls a1 (hset _ H1 hP1 hD1) hS1)
theorem yr_zald (pc2 : Nat) (C : yC Z D dA p s m args meth c cc nL own A) {a n : Nat} {f : Nat → Int32} {i : Int32} (d : decode cc pc = .ok (.baload, 1)) (ha : h a = some (.inl (dA 3, n, .inl f))) (hin : vp_in i n) (hp : pc + 1 = pc2) (k : yW p l e R s m args below meth c nL D A cells slots Q pc2 lv (.int (f i.toNatClampNeg) :: st) (h)) : yW p l e R s m args below meth c nL D A cells slots Q pc lv (.int i :: .ref a :: st) (h) := fun H locs ls a1 b w => by
  subst hp
  obtain ⟨ws, q0, hP, hD, hq, -⟩ := yd_pos b ha
  exact va_zald C.1 C.2.1 C.2.2.2.2.2.1 hP q0 3 hq rfl hin d (k H locs ls a1 b w)
theorem yr_zast (pc2 : Nat) (C : yC Z D dA p s m args meth c cc nL own A) {a n : Nat} {f : Nat → Int32} {i x : Int32} (d : decode cc pc = .ok (.bastore, 1)) (ha : h a = some (.inl (dA 3, n, .inl f))) (hin : vp_in i n) (hp : pc + 1 = pc2) (k : yW p l e R s m args below meth c nL D A cells slots Q pc2 lv (st) (va_up h a (some (.inl (dA 3, n, .inl (upd f i.toNatClampNeg (vp_nar .boolean x))))))) : yW p l e R s m args below meth c nL D A cells slots Q pc lv (.int x :: .int i :: .ref a :: st) (h) := fun H locs ls a1 b w => by
  subst hp
  obtain ⟨ws, q0, hP, hD, hq, hset, -⟩ := yd_pos b ha
  exact va_zast C.1 C.2.1 C.2.2.2.2.2.1 hP hD w q0 3 hq rfl hin d (fun H1 locs1 hP1 hD1 hS1 => k H1 locs1 ls a1 (hset _ H1 hP1 hD1) hS1)
theorem yr_alen (pc2 t : Nat) (C : yC Z D dA p s m args meth c cc nL own A) {a : Nat} {cA : ClassId} {x : vp_A} {ty : FieldType} (v : Int32) (d : decode cc pc = .ok (.arraylength, 1)) (ha : h a = some (.inl (cA, x))) (ht : (yT dA)[t]? = some (cA, ty)) (hv : Int32.ofNat x.1 = v) (hp : pc + 1 = pc2) (k : yW p l e R s m args below meth c nL D A cells slots Q pc2 lv (.int v :: st) (h)) : yW p l e R s m args below meth c nL D A cells slots Q pc lv (.ref a :: st) (h) := fun H locs ls a1 b w => by
  subst hp
  obtain ⟨ws, q0, hP, hD, hq, -⟩ := yd_pos b ha
  exact va_alen C.1 C.2.1 C.2.2.2.2.2.1 hP q0 t hq ht hv d (k H locs ls a1 b w)
end Rows2
