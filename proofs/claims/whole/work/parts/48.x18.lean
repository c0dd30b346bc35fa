theorem nar8 {x : Int32} (h : m_in x (-128) 127 = true) : x.toInt8.toInt32 = x := by
  simp only [m_in, Bool.and_eq_true, Bool.not_eq_true', decide_eq_false_iff_not, Int32.not_lt, Int32.le_iff_toInt_le] at h
  obtain ⟨h1, h2⟩ := h
  have e1 : (-128 : Int32).toInt = -128 := by decide
  have e2 : (127 : Int32).toInt = 127 := by decide
  apply Int32.toInt_inj.mp
  rw [Int8.toInt_toInt32, Int32.toInt_toInt8]
  exact Int.bmod_eq_of_le (by omega) (by omega)
theorem nar16 {x : Int32} (h : m_in x 0 10000 = true) : x.toInt16.toInt32 = x := by
  simp only [m_in, Bool.and_eq_true, Bool.not_eq_true', decide_eq_false_iff_not, Int32.not_lt, Int32.le_iff_toInt_le] at h
  obtain ⟨h1, h2⟩ := h
  have e1 : (0 : Int32).toInt = 0 := by decide
  have e2 : (10000 : Int32).toInt = 10000 := by decide
  apply Int32.toInt_inj.mp
  rw [Int16.toInt_toInt32, Int32.toInt_toInt16]
  exact Int.bmod_eq_of_le (by omega) (by omega)
theorem vp_nar8 (x : Int32) : vp_nar .byte x = x.toInt8.toInt32 := rfl
theorem vp_nar16 (x : Int32) : vp_nar .short x = x.toInt16.toInt32 := rfl
theorem RX_upd {S' : yS} {h' : yH} {dA : Nat → ClassId} {t0 : Nat} {S : yS} {lf mc : Nat → Int32} {cap : Nat → Nat} {B : Nat → Nat → Nat} {N : Nat → Nat} {h : yH} (hR : RX dA t0 S lf mc cap B N h) (hV : ∀ k i, xV S' cap N k i → xV S cap N k i) (hc : ∀ k i, xV S' cap N k i → xV S cap N k i → h' (B k i) = some (xC dA S' lf mc cap B N k i)) : RX dA t0 S' lf mc cap B N h' :=
  ⟨fun k i v => hc k i v (hV k i v), fun k i k' i' v v' e => hR.2.1 k i k' i' (hV k i v) (hV k' i' v') e, hR.2.2⟩
theorem xV_imp {S S' : yS} {cap N : Nat → Nat} (h : ∀ i, 0 ≤ S' 20 i → 0 ≤ S 20 i) (k i : Nat) (v : xV S' cap N k i) : xV S cap N k i := by
  revert v
  by_cases hk : k < 17
  · refine c17 (P := fun k => xV S' cap N k i → xV S cap N k i) ?_ ?_ ?_ ?_ ?_ ?_ ?_ ?_ ?_ ?_ ?_ ?_ ?_ ?_ ?_ ?_ ?_ k hk
    all_goals simp only [xV]
    all_goals first | exact fun q => q | exact fun q => ⟨q.1, h i q.2⟩
  · exact fun q => absurd (xV_lt q) hk
theorem RX_cut {dA : Nat → ClassId} {t0 : Nat} {S : yS} {lf mc : Nat → Int32} {cap : Nat → Nat} {B : Nat → Nat → Nat} {N : Nat → Nat} {h : yH} (hR : RX dA t0 S lf mc cap B N h) {d : Nat} (hd : d < N 2) : RX dA t0 (mset S 20 d (-5)) lf mc cap B N (va_up h (B 8 d) (some (.inr (2, [.int (nI d), .null, .null, .int 0])))) := by
  have hV := xV_imp (S := S) (S' := mset S 20 d (-5)) (cap := cap) (N := N) (fun i q => by
    rw [mset_at] at q
    by_cases c : i = d
    · rw [if_pos c] at q
      exact absurd q (by decide)
    · rw [if_neg c] at q
      exact q)
  refine RX_upd hR hV (fun k i v' v => ?_)
  by_cases c : k = 8 ∧ i = d
  · obtain ⟨rfl, rfl⟩ := c
    rw [va_up_self']
    simp only [xC]
    rw [mset_same, if_pos (by decide)]
  · rw [va_up_ne' _ _ (fun z => c (hR.2.1 k i 8 d v hd z)), hR.1 k i v]
    congr 1
    by_cases c8 : k = 8
    · subst c8
      have ne : i ≠ d := fun z => c ⟨rfl, z⟩
      simp only [xC, mset_at, if_neg ne]
    · by_cases c9 : k = 9
      · subst c9
        have ne : i ≠ d := fun z => by
          have q := v'.2
          rw [mset_at, if_pos z] at q
          exact absurd q (by decide)
        simp only [xC, mset_at, if_neg ne]
        rw [mset_ne _ _ (by decide)]
      · by_cases c10 : k = 10
        · subst c10
          have ne : i ≠ d := fun z => by
            have q := v'.2
            rw [mset_at, if_pos z] at q
            exact absurd q (by decide)
          simp only [xC, mset_at, if_neg ne]
          rw [mset_ne _ _ (by decide)]
        · refine (xC_ne (xV_lt v) ?_).symm
          have : ∀ k, k < 17 → k ≠ 8 → k ≠ 9 → k ≠ 10 → (xRows k).contains 20 = false := by decide
          exact this k (xV_lt v) c8 c9 c10
theorem row_upd {f g : Nat → Int32} {d z : Nat} {u : Int32} (hz : z < 200) (hg : ∀ x, g (200 * d + x) = if x = z then u else f (200 * d + x)) : (fun x => if x < z + 1 then g (200 * d + x) else 0) = upd (fun x => if x < z then f (200 * d + x) else 0) z u := by
  funext x
  unfold upd
  rw [hg]
  by_cases c : x = z
  · rw [if_pos c, if_pos c, if_pos (by omega)]
  · rw [if_neg c, if_neg c]
    show _ = if x < z then f (200 * d + x) else 0
    by_cases q : x < z
    · rw [if_pos q, if_pos (by omega)]
    · rw [if_neg q, if_neg (by omega)]
def pasS (S : yS) (d z : Nat) (u v : Int32) : yS := mset (mset (mset S 21 (200 * d + z) u) 22 (200 * d + z) v) 20 d (nI z + 1)
theorem RX_pass {dA : Nat → ClassId} {t0 : Nat} {S : yS} {lf mc : Nat → Int32} {cap : Nat → Nat} {B : Nat → Nat → Nat} {N : Nat → Nat} {h : yH} (hR : RX dA t0 S lf mc cap B N h) {d z : Nat} (hd : d < N 2) (hz : z < 200) (e : S 20 d = nI z) (h20 : ∀ i, i < N 2 → cO (S 20 i) 201) (u v0 : Int32) : RX dA t0 (pasS S d z u v0) lf mc cap B N (va_up (va_up (va_up h (B 9 d) (some (.inl (dA 1, 200, .inl (upd (fun i => if i < ix (S 20 d) then S 21 (200 * d + i) else 0) z u))))) (B 10 d) (some (.inl (dA 2, 200, .inl (upd (fun i => if i < ix (S 20 d) then S 22 (200 * d + i) else 0) z v0))))) (B 8 d) (some (.inr (2, [.int (nI d), .ref (B 9 d), .ref (B 10 d), .int (nI z + 1)])))) := by
  have p20 : ∀ i, pasS S d z u v0 20 i = if i = d then nI (z + 1) else S 20 i := fun i => by
    unfold pasS
    rw [mset_at, nI_1, mset_ne _ _ (by decide), mset_ne _ _ (by decide)]
  have p21 : ∀ x, pasS S d z u v0 21 x = if x = 200 * d + z then u else S 21 x := fun x => by
    unfold pasS
    rw [mset_ne _ _ (by decide), mset_ne _ _ (by decide), mset_at]
  have p22 : ∀ x, pasS S d z u v0 22 x = if x = 200 * d + z then v0 else S 22 x := fun x => by
    unfold pasS
    rw [mset_ne _ _ (by decide), mset_at, mset_ne _ _ (by decide)]
  have s0 : 0 ≤ S 20 d := by rw [e]; exact nI_pos' (by omega)
  have hV := xV_imp (S := S) (S' := pasS S d z u v0) (cap := cap) (N := N) (fun i q => by
    rw [p20] at q
    by_cases c : i = d
    · rw [c]
      exact s0
    · rw [if_neg c] at q
      exact q)
  have v8 : xV S cap N 8 d := hd
  have v9 : xV S cap N 9 d := ⟨hd, s0⟩
  have v10 : xV S cap N 10 d := ⟨hd, s0⟩
  have i1 : ix (S 20 d) = z := by rw [e, ix_nI (by omega)]
  have i2 : ix (nI (z + 1)) = z + 1 := ix_nI (by omega)
  have n98 : B 9 d ≠ B 8 d := fun q => by have := (hR.2.1 9 d 8 d v9 v8 q).1; omega
  have n108 : B 10 d ≠ B 8 d := fun q => by have := (hR.2.1 10 d 8 d v10 v8 q).1; omega
  have n910 : B 9 d ≠ B 10 d := fun q => by have := (hR.2.1 9 d 10 d v9 v10 q).1; omega
  refine RX_upd hR hV (fun k i v' v => ?_)
  by_cases c8 : k = 8 ∧ i = d
  · obtain ⟨rfl, rfl⟩ := c8
    rw [va_up_self']
    simp only [xC, p20, if_true]
    rw [if_neg (nI_pos (by omega)), nI_1]
  · by_cases c10 : k = 10 ∧ i = d
    · obtain ⟨rfl, rfl⟩ := c10
      rw [va_up_ne' _ _ n108, va_up_self']
      simp only [xC, p20, if_true, i2, i1]
      rw [row_upd hz (f := S 22) (g := pasS S i z u v0 22) (u := v0) (fun x => by
        rw [p22]
        by_cases q : x = z
        · rw [if_pos q, if_pos (by omega)]
        · rw [if_neg q, if_neg (by omega)])]
    · by_cases c9 : k = 9 ∧ i = d
      · obtain ⟨rfl, rfl⟩ := c9
        rw [va_up_ne' _ _ n98, va_up_ne' _ _ n910, va_up_self']
        simp only [xC, p20, if_true, i2, i1]
        rw [row_upd hz (f := S 21) (g := pasS S i z u v0 21) (u := u) (fun x => by
          rw [p21]
          by_cases q : x = z
          · rw [if_pos q, if_pos (by omega)]
          · rw [if_neg q, if_neg (by omega)])]
      · rw [va_up_ne' _ _ (fun q => c8 (hR.2.1 k i 8 d v v8 q)), va_up_ne' _ _ (fun q => c10 (hR.2.1 k i 10 d v v10 q)), va_up_ne' _ _ (fun q => c9 (hR.2.1 k i 9 d v v9 q)), hR.1 k i v]
        congr 1
        by_cases k8 : k = 8
        · subst k8
          have ne : i ≠ d := fun q => c8 ⟨rfl, q⟩
          simp only [xC, p20, if_neg ne]
        · by_cases k9 : k = 9
          · subst k9
            have ne : i ≠ d := fun q => c9 ⟨rfl, q⟩
            simp only [xC, p20, if_neg ne]
            congr 5
            funext x
            by_cases q : x < ix (S 20 i)
            · rw [if_pos q, if_pos q, p21, if_neg]
              have q2 : ix (S 20 i) < 201 := by
                rcases h20 i v.1 with y | ⟨y, hy, ey⟩
                · rw [y]; decide
                · rw [ey, ix_nI (by omega)]; exact hy
              omega
            · rw [if_neg q, if_neg q]
          · by_cases k10 : k = 10
            · subst k10
              have ne : i ≠ d := fun q => c10 ⟨rfl, q⟩
              simp only [xC, p20, if_neg ne]
              congr 5
              funext x
              by_cases q : x < ix (S 20 i)
              · rw [if_pos q, if_pos q, p22, if_neg]
                have q2 : ix (S 20 i) < 201 := by
                  rcases h20 i v.1 with y | ⟨y, hy, ey⟩
                  · rw [y]; decide
                  · rw [ey, ix_nI (by omega)]; exact hy
                omega
              · rw [if_neg q, if_neg q]
            · refine (xC_rows (xV_lt v) (fun r hr => ?_)).symm
              have : ∀ k, k < 17 → (k ≠ 8 ∧ k ≠ 9 ∧ k ≠ 10) → ∀ r, r ∈ xRows k → r ≠ 20 ∧ r ≠ 21 ∧ r ≠ 22 := by decide
              obtain ⟨q1, q2, q3⟩ := this k (xV_lt v) ⟨k8, k9, k10⟩ r (by simpa using hr)
              unfold pasS
              rw [mset_ne _ _ q1, mset_ne _ _ q3, mset_ne _ _ q2]
theorem m_in_out (n : Int32) (h : ∀ i : Nat, i < 12 → n ≠ nI i) : m_in n 0 11 = false := by
  cases c : m_in n 0 11 with
  | false => rfl
  | true =>
    obtain ⟨j, hj, e⟩ := m_in_3 (k := 11) (by decide) c
    exact absurd e (h j (by omega))
theorem rx8n {dA : Nat → ClassId} {t0 : Nat} {S : yS} {lf mc : Nat → Int32} {cap : Nat → Nat} {B : Nat → Nat → Nat} {N : Nat → Nat} {h : yH} (hR : RX dA t0 S lf mc cap B N h) {d : Nat} (hd : d < N 2) : ∃ tl : List Value, h (B 8 d) = some (.inr (2, .int (nI d) :: tl)) := by
  by_cases c : S 20 d < 0
  · exact ⟨_, rx8c hR hd c⟩
  · exact ⟨_, rx8 hR hd c⟩
section X18
variable {D : va_G} {dA : Nat → ClassId} {t0 mi : Nat} {S : yS} {lf mc : Nat → Int32} {cap : Nat → Nat} {B : Nat → Nat → Nat} {N : Nat → Nat}
variable {t : Nat}
set_option maxHeartbeats 4000000 in
set_option maxRecDepth 100000 in
theorem xc_cutOff (d : Nat) (hd : d < N 2) (hc : ¬ S 20 d < 0)  (h : yH) (hR : RX dA t0 (S) lf mc cap B N h) : yM (yZ t0 mi D dA) D yX1_cutOff cX1_cutOff 2 (some .int) 0 0 0 [.ref (B 8 d)] h (fun r h' => r = some (.int (S 20 d)) ∧ RX dA t0 (mset S 20 d (-5)) lf mc cap B N h') := by
  refine yM_of (yZ_ok t0 mi D dA) (by decide) rfl (Nat.le_of_ble_eq_true rfl) ?_
  intro p l e s m args below meth c A C hr hin
  show yW p l e (yR 0 0 0) s m args below meth c 2 D A 0 0 _ 0 [some (.ref (B 8 d)), none] [] h
  refine yr_aload_n 1 C dX1_cutOff_0 rfl rfl rfl ?_
  refine yr_get 4 C dX1_cutOff_1 fl_X1_19 (rx8 hR hd hc) rfl rfl ?_
  refine yr_istore1 5 C dX1_cutOff_4 (by decide) rfl ?_
  refine yr_aload_n 6 C dX1_cutOff_5 rfl rfl rfl ?_
  refine yr_null 7 C dX1_cutOff_6 rfl ?_
  refine yr_put 10 C dX1_cutOff_7 fp_X1_9 (rx8 hR hd hc) (Nat.le_of_ble_eq_true rfl) rfl rfl rfl ?_
  refine yr_aload_n 11 C dX1_cutOff_10 rfl rfl rfl ?_
  refine yr_null 12 C dX1_cutOff_11 rfl ?_
  refine yr_put 15 C dX1_cutOff_12 fp_X1_15 (va_up_self' _ _ _) (Nat.le_of_ble_eq_true rfl) rfl rfl rfl ?_
  refine yr_aload_n 16 C dX1_cutOff_15 rfl rfl rfl ?_
  refine yr_iconst 17 C (0) dX1_cutOff_16 rfl rfl ?_
  refine yr_put 20 C dX1_cutOff_17 fp_X1_19 (va_up_self' _ _ _) (Nat.le_of_ble_eq_true rfl) rfl rfl rfl ?_
  refine yr_iload_n 21 C dX1_cutOff_20 rfl rfl ?_
  refine yr_iret C dX1_cutOff_21 hr (Nat.le_of_ble_eq_true rfl) (Nat.le_of_ble_eq_true rfl) ?_
  refine ⟨rfl, ?_⟩
  rw [va_up_up, va_up_up]
  exact RX_cut hR hd
set_option maxHeartbeats 4000000 in
set_option maxRecDepth 100000 in
theorem xc_cut (q : Int32) (hI : mI S (N 0) (N 1) (N 2) (N 3) (N 4) t) (ht : t < 2 ^ 20) (hlf : lf = S 5) (h : yH) (hR : RX dA t0 (S) lf mc cap B N h) : yM (yZ t0 mi D dA) D yX8_cut cX8_cut 3 (some .int) 4 0 0 [.ref (B 0 0), .int q] h (fun r h' => r = some (.int (sp_cut S q).1) ∧ RX dA t0 ((sp_cut S q).2) lf mc cap B N h') := by
  refine yM_of (yZ_ok t0 mi D dA) (by decide) rfl (Nat.le_of_ble_eq_true rfl) ?_
  intro p l e s m args below meth c A C hr hin
  show yW p l e (yR 4 0 0) s m args below meth c 3 D A 0 0 _ 0 [some (.ref (B 0 0)), some (.int q), none] [] h
  have h0 : S 1 0 = nI (N 0) ∧ N 0 ≤ 8 := hI 0
  have h1 : S 17 0 = nI (N 1) ∧ N 1 ≤ 6 := hI 1
  have h2 : S 19 0 = nI (N 2) ∧ N 2 ≤ 12 := hI 2
  have h5 : S 0 0 = nI t := hI 5
  have hB := mB_of_mI hI ht
  refine yr_aload_n 1 C dX8_cut_0 rfl rfl rfl ?_
  refine yr_iload_n 2 C dX8_cut_1 rfl rfl ?_
  refine yr_V1v 5 C (xc_detectorAt _ h2 _ hR) dX8_cut_2 mt_X8_detectorAt mv_X8_detectorAt ml_X8_136 (rx0 hR) rfl (Nat.le_of_ble_eq_true rfl) (Nat.le_of_ble_eq_true rfl) (Nat.le_of_ble_eq_true rfl) (Nat.le_of_ble_eq_true rfl) (Nat.le_of_ble_eq_true rfl) rfl (fun h hR => ?_)
  rcases dt_cases (B := B) hI q with ⟨e1, e2⟩ | ⟨j, hj, rfl, e1, e2⟩
  · rw [e2]
    refine yr_astore2 6 C dX8_cut_5 rfl (by decide) rfl ?_
    refine yr_aload_n 7 C dX8_cut_6 rfl rfl rfl ?_
    refine yr_ifnonnull_n 10 C dX8_cut_7 rfl ?_
    refine yr_iconst 11 C (-1) dX8_cut_10 rfl rfl ?_
    refine yr_iret C dX8_cut_11 hr (Nat.le_of_ble_eq_true rfl) (Nat.le_of_ble_eq_true rfl) ?_
    exact ⟨by simp [sp_cut, e1], by simpa [sp_cut, e1] using hR⟩
  · rw [e2]
    have ej : ix (nI j) = j := ix_nI (by omega)
    refine yr_astore2 6 C dX8_cut_5 rfl (by decide) rfl ?_
    refine yr_aload_n 7 C dX8_cut_6 rfl rfl rfl ?_
    refine yr_ifnonnull_r 12 C dX8_cut_7 (by decide) ?_
    refine yr_aload_n 13 C dX8_cut_12 rfl rfl rfl ?_
    refine yr_V0v 16 C (xc_isCutOff _ hj _ hR) dX8_cut_13 mt_X1_isCutOff mv_X1_isCutOff ml_X8_140 (hR.1 8 j hj) rfl (Nat.le_of_ble_eq_true rfl) (Nat.le_of_ble_eq_true rfl) (Nat.le_of_ble_eq_true rfl) (Nat.le_of_ble_eq_true rfl) (Nat.le_of_ble_eq_true rfl) rfl (fun h hR => ?_)
    refine yb_eq 22 19 C  dX8_cut_16 (by decide) rfl (fun c16 => ?_) (fun c16 => ?_)
    · refine yr_aload_n 23 C dX8_cut_22 rfl rfl rfl ?_
      have hc : ¬ S 20 j < 0 := of_decide_eq_false c16
      refine yr_V0v 26 C (xc_cutOff j hj hc _ hR) dX8_cut_23 mt_X1_cutOff mv_X1_cutOff ml_X8_143 (rx8 hR hj hc) rfl (Nat.le_of_ble_eq_true rfl) (Nat.le_of_ble_eq_true rfl) (Nat.le_of_ble_eq_true rfl) (Nat.le_of_ble_eq_true rfl) (Nat.le_of_ble_eq_true rfl) rfl (fun h hR => ?_)
      refine yr_iret C dX8_cut_26 hr (Nat.le_of_ble_eq_true rfl) (Nat.le_of_ble_eq_true rfl) ?_
      have a1 : 0 ≤ S 20 j := Int32.not_lt.mp hc
      exact ⟨by simp [sp_cut, e1, ej, a1], by simpa [sp_cut, e1, ej, a1] using hR⟩
    · refine yr_bipush 21 C (-3) dX8_cut_19 rfl rfl ?_
      refine yr_iret C dX8_cut_21 hr (Nat.le_of_ble_eq_true rfl) (Nat.le_of_ble_eq_true rfl) ?_
      have a1 : ¬ 0 ≤ S 20 j := Int32.not_le.mpr (of_decide_eq_true c16)
      exact ⟨by simp [sp_cut, e1, ej, a1], by simpa [sp_cut, e1, ej, a1] using hR⟩
set_option maxHeartbeats 4000000 in
set_option maxRecDepth 100000 in
theorem xc_restore  (hI : mI S (N 0) (N 1) (N 2) (N 3) (N 4) t) (ht : t < 2 ^ 20) (hlf : lf = S 5) (h : yH) (hR : RX dA t0 (S) lf mc cap B N h) : yM (yZ t0 mi D dA) D yX8_restore cX8_restore 1 (some .int) 5 0 0 [.ref (B 0 0)] h (fun r h' => r = some (.int (sp_restore S).1) ∧ RX dA t0 (sp_restore S).2 ((sp_restore S).2 5) mc cap B N h') := by
  refine yM_of (yZ_ok t0 mi D dA) (by decide) rfl (Nat.le_of_ble_eq_true rfl) ?_
  intro p l e s m args below meth c A C hr hin
  show yW p l e (yR 5 0 0) s m args below meth c 1 D A 0 0 _ 0 [some (.ref (B 0 0))] [] h
  subst hlf
  have h0 : S 1 0 = nI (N 0) ∧ N 0 ≤ 8 := hI 0
  have h1 : S 17 0 = nI (N 1) ∧ N 1 ≤ 6 := hI 1
  have h2 : S 19 0 = nI (N 2) ∧ N 2 ≤ 12 := hI 2
  have h5 : S 0 0 = nI t := hI 5
  have hB := mB_of_mI hI ht
  have ep : ix (S 1 0) = N 0 := by rw [h0.1]; exact ix_nI (by omega)
  refine yr_aload_n 1 C dX8_restore_0 rfl rfl rfl ?_
  refine yr_get 4 C dX8_restore_1 fl_X8_38 (rx0 hR) rfl rfl ?_
  refine yr_get 7 C dX8_restore_4 fl_X8_179 (rx15 hR) rfl rfl ?_
  refine yr_if_ne 13 10 C  dX8_restore_7 (by decide) rfl (fun c7 => ?_) (fun c7 => ?_)
  · refine yr_aload_n 14 C dX8_restore_13 rfl rfl rfl ?_
    refine yr_get 17 C dX8_restore_14 fl_X8_38 (rx0 hR) rfl rfl ?_
    refine yr_iconst 18 C (0) dX8_restore_17 rfl rfl ?_
    refine xx_put 21 C dX8_restore_18 fp_X8_179 (rx15 hR) (Nat.le_of_ble_eq_true rfl) rfl rfl (ru15_3 hR _) rfl (fun h hR => ?_)
    refine yr_aload_n 22 C dX8_restore_21 rfl rfl rfl ?_
    refine yr_iconst 23 C (0) dX8_restore_22 rfl rfl ?_
    refine yr_V1u 26 C (xc_changeAllLights 0 (by decide) (mset_ne _ _ (by decide)).symm (mG_row (hI 31) (mset_ne _ _ (by decide))) (mB_fr hB (mFr_set S 0 _ (show mFk 44 = true from rfl))) _ hR) dX8_restore_23 mt_X8_changeAllLights mv_X8_changeAllLights ml_X8_200 (rx0 hR) rfl (Nat.le_of_ble_eq_true rfl) (Nat.le_of_ble_eq_true rfl) (Nat.le_of_ble_eq_true rfl) (Nat.le_of_ble_eq_true rfl) (Nat.le_of_ble_eq_true rfl) rfl (fun h hR => ?_)
    refine yr_iconst 27 C (1) dX8_restore_26 rfl rfl ?_
    refine yr_iret C dX8_restore_27 hr (Nat.le_of_ble_eq_true rfl) (Nat.le_of_ble_eq_true rfl) ?_
    unfold sp_restore
    rw [if_neg c7, ep]
    exact ⟨rfl, hR⟩
  · refine yr_bipush 12 C (-3) dX8_restore_10 rfl rfl ?_
    refine yr_iret C dX8_restore_12 hr (Nat.le_of_ble_eq_true rfl) (Nat.le_of_ble_eq_true rfl) ?_
    unfold sp_restore
    rw [if_pos c7]
    exact ⟨rfl, hR⟩
set_option maxHeartbeats 4000000 in
set_option maxRecDepth 100000 in
theorem xc_told (q n : Int32) (hI : mI S (N 0) (N 1) (N 2) (N 3) (N 4) t) (ht : t < 2 ^ 20) (hlf : lf = S 5) (h : yH) (hR : RX dA t0 (S) lf mc cap B N h) : yM (yZ t0 mi D dA) D yX8_told cX8_told 4 (some .int) 4 0 0 [.ref (B 0 0), .int q, .int n] h (fun r h' => r = some (.int (sp_told S q n).1) ∧ RX dA t0 ((sp_told S q n).2) lf mc cap B N h') := by
  refine yM_of (yZ_ok t0 mi D dA) (by decide) rfl (Nat.le_of_ble_eq_true rfl) ?_
  intro p l e s m args below meth c A C hr hin
  show yW p l e (yR 4 0 0) s m args below meth c 4 D A 0 0 _ 0 [some (.ref (B 0 0)), some (.int q), some (.int n), none] [] h
  have h0 : S 1 0 = nI (N 0) ∧ N 0 ≤ 8 := hI 0
  have h1 : S 17 0 = nI (N 1) ∧ N 1 ≤ 6 := hI 1
  have h2 : S 19 0 = nI (N 2) ∧ N 2 ≤ 12 := hI 2
  have h5 : S 0 0 = nI t := hI 5
  have hB := mB_of_mI hI ht
  refine yr_aload_n 1 C dX8_told_0 rfl rfl rfl ?_
  refine yr_iload_n 2 C dX8_told_1 rfl rfl ?_
  refine yr_V1v 5 C (xc_phaseAt _ h0 _ hR) dX8_told_2 mt_X8_phaseAt mv_X8_phaseAt ml_X8_91 (rx0 hR) rfl (Nat.le_of_ble_eq_true rfl) (Nat.le_of_ble_eq_true rfl) (Nat.le_of_ble_eq_true rfl) (Nat.le_of_ble_eq_true rfl) (Nat.le_of_ble_eq_true rfl) rfl (fun h hR => ?_)
  rcases ph_cases (B := B) hI q with ⟨e1, e2⟩ | ⟨j, hj, rfl, e1, e2⟩
  · rw [e2]
    refine yr_astore3 6 C dX8_told_5 rfl (by decide) rfl ?_
    refine yr_aload_n 7 C dX8_told_6 rfl rfl rfl ?_
    refine yr_ifnonnull_n 10 C dX8_told_7 rfl ?_
    refine yr_iconst 11 C (-1) dX8_told_10 rfl rfl ?_
    refine yr_iret C dX8_told_11 hr (Nat.le_of_ble_eq_true rfl) (Nat.le_of_ble_eq_true rfl) ?_
    exact ⟨by simp [sp_told, e1], hR⟩
  · rw [e2]
    have ej : ix (nI j) = j := ix_nI (by omega)
    refine yr_astore3 6 C dX8_told_5 rfl (by decide) rfl ?_
    refine yr_aload_n 7 C dX8_told_6 rfl rfl rfl ?_
    refine yr_ifnonnull_r 12 C dX8_told_7 (by decide) ?_
    have h7 : cO (S 4 j) (N 2) := (show ∀ p, p < N 0 → cO (S 4 p) (N 2) from hI 7) j hj
    refine yr_iload_n 13 C dX8_told_12 rfl rfl ?_
    by_cases z13_0 : n = 0
    · rw [z13_0]
      refine yr_tabIn (off := 63) 76 C dX8_told_13 (by decide) (by decide) rfl (by decide) ?_
      refine yr_aload_n 77 C dX8_told_76 rfl rfl rfl ?_
      refine yr_get 80 C dX8_told_77 fl_X8_220 (rx3 hR hj) rfl rfl ?_
      refine yr_iret C dX8_told_80 hr (Nat.le_of_ble_eq_true rfl) (Nat.le_of_ble_eq_true rfl) ?_
      subst z13_0
      refine ⟨?_, hR⟩
      simp [sp_told, e1, ej, m_in, hlf]
    by_cases z13_1 : n = 1
    · rw [z13_1]
      refine yr_tabIn (off := 68) 81 C dX8_told_13 (by decide) (by decide) rfl (by decide) ?_
      refine yr_aload_n 82 C dX8_told_81 rfl rfl rfl ?_
      refine yr_get 85 C dX8_told_82 fl_X8_131 (rx3 hR hj) rfl rfl ?_
      rcases xr_cases (f := B 8) (by omega) h7 with ⟨g1, g2⟩ | ⟨z, hz, g1, g2⟩
      · rw [g2]
        refine yr_ifnonnull_n 88 C dX8_told_85 rfl ?_
        refine yr_bipush 90 C (-5) dX8_told_88 rfl rfl ?_
        refine yr_goto 100 C dX8_told_90 (by decide) ?_
        refine yr_iret C dX8_told_100 hr (Nat.le_of_ble_eq_true rfl) (Nat.le_of_ble_eq_true rfl) ?_
        subst z13_1
        refine ⟨?_, hR⟩
        simp [sp_told, e1, ej, g1, m_in]
      · rw [g2]
        refine yr_ifnonnull_r 93 C dX8_told_85 (by decide) ?_
        refine yr_aload_n 94 C dX8_told_93 rfl rfl rfl ?_
        refine yr_get 97 C dX8_told_94 fl_X8_131 (rx3 hR hj) rfl rfl ?_
        rw [g2]
        obtain ⟨tl, e8⟩ := rx8n hR hz
        refine yr_get 100 C dX8_told_97 fl_X8_135 e8 rfl rfl ?_
        refine yr_iret C dX8_told_100 hr (Nat.le_of_ble_eq_true rfl) (Nat.le_of_ble_eq_true rfl) ?_
        subst z13_1
        refine ⟨?_, hR⟩
        simp [sp_told, e1, ej, g1, m_in]
    by_cases z13_2 : n = 2
    · rw [z13_2]
      refine yr_tabIn (off := 88) 101 C dX8_told_13 (by decide) (by decide) rfl (by decide) ?_
      refine yr_aload_n 102 C dX8_told_101 rfl rfl rfl ?_
      refine yr_get 105 C dX8_told_102 fl_X8_223 (rx3 hR hj) rfl rfl ?_
      refine yr_iret C dX8_told_105 hr (Nat.le_of_ble_eq_true rfl) (Nat.le_of_ble_eq_true rfl) ?_
      subst z13_2
      refine ⟨?_, hR⟩
      simp [sp_told, e1, ej, m_in, hlf]
    by_cases z13_3 : n = 3
    · rw [z13_3]
      refine yr_tabIn (off := 93) 106 C dX8_told_13 (by decide) (by decide) rfl (by decide) ?_
      refine yr_aload_n 107 C dX8_told_106 rfl rfl rfl ?_
      refine yr_get 110 C dX8_told_107 fl_X8_226 (rx3 hR hj) rfl rfl ?_
      refine yr_iret C dX8_told_110 hr (Nat.le_of_ble_eq_true rfl) (Nat.le_of_ble_eq_true rfl) ?_
      subst z13_3
      refine ⟨?_, hR⟩
      simp [sp_told, e1, ej, m_in, hlf]
    by_cases z13_4 : n = 4
    · rw [z13_4]
      refine yr_tabIn (off := 98) 111 C dX8_told_13 (by decide) (by decide) rfl (by decide) ?_
      refine yr_aload_n 112 C dX8_told_111 rfl rfl rfl ?_
      refine yr_get 115 C dX8_told_112 fl_X8_229 (rx3 hR hj) rfl rfl ?_
      refine yr_iret C dX8_told_115 hr (Nat.le_of_ble_eq_true rfl) (Nat.le_of_ble_eq_true rfl) ?_
      subst z13_4
      refine ⟨?_, hR⟩
      simp [sp_told, e1, ej, m_in, hlf]
    by_cases z13_5 : n = 5
    · rw [z13_5]
      refine yr_tabIn (off := 103) 116 C dX8_told_13 (by decide) (by decide) rfl (by decide) ?_
      refine yr_aload_n 117 C dX8_told_116 rfl rfl rfl ?_
      refine yr_get 120 C dX8_told_117 fl_X8_232 (rx3 hR hj) rfl rfl ?_
      refine yr_iret C dX8_told_120 hr (Nat.le_of_ble_eq_true rfl) (Nat.le_of_ble_eq_true rfl) ?_
      subst z13_5
      refine ⟨?_, hR⟩
      simp [sp_told, e1, ej, m_in, hlf]
    by_cases z13_6 : n = 6
    · rw [z13_6]
      refine yr_tabIn (off := 108) 121 C dX8_told_13 (by decide) (by decide) rfl (by decide) ?_
      refine yr_aload_n 122 C dX8_told_121 rfl rfl rfl ?_
      refine yr_get 125 C dX8_told_122 fl_X8_235 (rx3 hR hj) rfl rfl ?_
      refine yr_iret C dX8_told_125 hr (Nat.le_of_ble_eq_true rfl) (Nat.le_of_ble_eq_true rfl) ?_
      subst z13_6
      refine ⟨?_, hR⟩
      simp [sp_told, e1, ej, m_in, hlf]
    by_cases z13_7 : n = 7
    · rw [z13_7]
      refine yr_tabIn (off := 113) 126 C dX8_told_13 (by decide) (by decide) rfl (by decide) ?_
      refine yr_aload_n 127 C dX8_told_126 rfl rfl rfl ?_
      refine yr_get 130 C dX8_told_127 fl_X8_238 (rx3 hR hj) rfl rfl ?_
      refine yr_iret C dX8_told_130 hr (Nat.le_of_ble_eq_true rfl) (Nat.le_of_ble_eq_true rfl) ?_
      subst z13_7
      refine ⟨?_, hR⟩
      simp [sp_told, e1, ej, m_in, hlf]
    by_cases z13_8 : n = 8
    · rw [z13_8]
      refine yr_tabIn (off := 118) 131 C dX8_told_13 (by decide) (by decide) rfl (by decide) ?_
      refine yr_aload_n 132 C dX8_told_131 rfl rfl rfl ?_
      refine yr_get 135 C dX8_told_132 fl_X8_172 (rx3 hR hj) rfl rfl ?_
      refine yr_iret C dX8_told_135 hr (Nat.le_of_ble_eq_true rfl) (Nat.le_of_ble_eq_true rfl) ?_
      subst z13_8
      refine ⟨?_, hR⟩
      simp [sp_told, e1, ej, m_in, hlf]
    by_cases z13_9 : n = 9
    · rw [z13_9]
      refine yr_tabIn (off := 123) 136 C dX8_told_13 (by decide) (by decide) rfl (by decide) ?_
      refine yr_aload_n 137 C dX8_told_136 rfl rfl rfl ?_
      refine yr_get 140 C dX8_told_137 fl_X8_241 (rx3 hR hj) rfl rfl ?_
      refine yr_iret C dX8_told_140 hr (Nat.le_of_ble_eq_true rfl) (Nat.le_of_ble_eq_true rfl) ?_
      subst z13_9
      refine ⟨?_, hR⟩
      simp [sp_told, e1, ej, m_in, hlf]
    by_cases z13_10 : n = 10
    · rw [z13_10]
      refine yr_tabIn (off := 128) 141 C dX8_told_13 (by decide) (by decide) rfl (by decide) ?_
      refine yr_aload_n 142 C dX8_told_141 rfl rfl rfl ?_
      refine yr_get 145 C dX8_told_142 fl_X8_244 (rx3 hR hj) rfl rfl ?_
      refine yr_iret C dX8_told_145 hr (Nat.le_of_ble_eq_true rfl) (Nat.le_of_ble_eq_true rfl) ?_
      subst z13_10
      refine ⟨?_, hR⟩
      simp [sp_told, e1, ej, m_in, hlf]
    by_cases z13_11 : n = 11
    · rw [z13_11]
      refine yr_tabIn (off := 133) 146 C dX8_told_13 (by decide) (by decide) rfl (by decide) ?_
      refine yr_aload_n 147 C dX8_told_146 rfl rfl rfl ?_
      refine yr_get 150 C dX8_told_147 fl_X8_247 (rx3 hR hj) rfl rfl ?_
      refine yr_iret C dX8_told_150 hr (Nat.le_of_ble_eq_true rfl) (Nat.le_of_ble_eq_true rfl) ?_
      subst z13_11
      refine ⟨?_, hR⟩
      simp [sp_told, e1, ej, m_in, hlf]
    refine yr_tabOut 151 C dX8_told_13 (sw_out 11 (by decide) (fun i hi => match i, hi with | 0, _ => z13_0 | 1, _ => z13_1 | 2, _ => z13_2 | 3, _ => z13_3 | 4, _ => z13_4 | 5, _ => z13_5 | 6, _ => z13_6 | 7, _ => z13_7 | 8, _ => z13_8 | 9, _ => z13_9 | 10, _ => z13_10 | 11, _ => z13_11 | (n + 12), q => absurd q (by omega))) (by decide) ?_
    refine yr_iconst 152 C (-1) dX8_told_151 rfl rfl ?_
    refine yr_iret C dX8_told_152 hr (Nat.le_of_ble_eq_true rfl) (Nat.le_of_ble_eq_true rfl) ?_
    refine ⟨?_, hR⟩
    have a1 : m_in n 0 11 = false := m_in_out n (fun i hi => match i, hi with | 0, _ => z13_0 | 1, _ => z13_1 | 2, _ => z13_2 | 3, _ => z13_3 | 4, _ => z13_4 | 5, _ => z13_5 | 6, _ => z13_6 | 7, _ => z13_7 | 8, _ => z13_8 | 9, _ => z13_9 | 10, _ => z13_10 | 11, _ => z13_11 | (k + 12), q => absurd q (by omega))
    simp [sp_told, a1]
end X18
