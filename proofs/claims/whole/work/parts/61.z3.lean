/-! the law: one call -/
/-- the Statement's room, whatever its last digits: TURN measures them anew on each machine -/
theorem rl_c : 500000 ≤ room_1.cells := Nat.le_of_ble_eq_true rfl
theorem rl_s : 7000000 ≤ room_1.slots := Nat.le_of_ble_eq_true rfl
theorem XI_recv {dA : Nat → ClassId} {t0 : Nat} {S : yS} {x0 T : Nat} {h : yH} (hX : XI dA t0 S x0 T h) : ∃ fs : List Value, h x0 = some (.inr (9, fs)) := by
  obtain ⟨mc, cap, B, N, t, rfl, hR, _⟩ := hX
  exact ⟨_, rx0 hR⟩
section Z3
variable {p : Program} {l : Launch} {e : Env} {s : State} {m : MethodId} {args : Array Value} {below : List Frame} {meth : Method} {c : Code} {D : va_G} {dA : Nat → ClassId} {t0 mi : Nat} {A : Nat → Prop} {Q : State → Prop} {b L x0 m0 n c0 s0 T : Nat} {xs : Nat → Int32} {S : yS} {ad : Nat → Nat} {hx hm : yH}
set_option maxHeartbeats 4000000 in
set_option maxRecDepth 100000 in
theorem law_0 (C : yC (yZ t0 mi D dA) D dA p s m args meth c cL_law 4 RL A) (hXs : va_X b L xs s s.heap) (hbl : b < s.heap.size) (hbA : ¬ A b) (hL : L ≤ 3072) (hn : 6 * n + 6 ≤ L) (hc : c0 + 10 ≤ 500000) (hs : s0 + 1000 ≤ 7000000) (hT : T + 4 < 2 ^ 20) (hX : XI dA t0 S x0 T hx) (hM : yMR dA ad m0 S hm) (ap : apart hx hm) (K : ∀ (S2 : yS) (hx2 hm2 : yH), XI dA t0 S2 x0 (T + 4) hx2 → yMR dA ad m0 S2 hm2 → apart hx2 hm2 → yW p l e room_1 s m args below meth c 4 D A (c0 + 10) (s0 + 1000) Q 879 [some (.ref b), some (.ref x0), some (.ref m0), some (.int (nI (6 * n)))] [] (jn hx2 hm2)) : yW p l e room_1 s m args below meth c 4 D A c0 s0 Q 148 [some (.ref b), some (.ref x0), some (.ref m0), some (.int (nI (6 * n)))] [] (jn hx hm) := by
  refine yr_aload_n 149 C dL_law_148 rfl rfl rfl ?_
  refine yr_aload_n 150 C dL_law_149 rfl rfl rfl ?_
  refine yr_iload_n 151 C dL_law_150 rfl rfl ?_
  refine yr_iconst 152 C (1) dL_law_151 rfl rfl ?_
  refine yr_iadd 153 C dL_law_152 rfl ?_
  rw [show nI (6 * n) + 1 = nI (6 * n + 1) from nI_add (6 * n) 1]
  refine yr_sld 154 C hXs hbl hbA (show 6 * n + 1 < L by omega) (by omega) dL_law_153 rfl ?_
  obtain ⟨fsx, hfx⟩ := XI_recv hX
  refine yr_V1v 157 C (yM_frame yZ_anti (xz_phase (D := D) (mi := mi) (xs (6 * n + 1)) hx hT hX) ap) dL_law_154 mt_X8_phase mv_X8_phase ml_L_13 (jn_l hfx) rfl (Nat.le_of_ble_eq_true rfl) (Nat.le_of_ble_eq_true rfl) (Nat.le_trans (show c0 + 4 ≤ 500000 by omega) rl_c) (Nat.le_trans (show s0 + 120 ≤ 7000000 by omega) rl_s) (Nat.le_of_ble_eq_true rfl) rfl (fun h hq => ?_)
  obtain ⟨hx2, hX2, ap2, rfl⟩ := hq
  obtain ⟨np, ns, nd, no, nr, t, hle, hI⟩ := XI_mI hX
  refine yr_aload_n 158 C dL_law_157 rfl rfl rfl ?_
  refine yr_aload_n 159 C dL_law_158 rfl rfl rfl ?_
  refine yr_iload_n 160 C dL_law_159 rfl rfl ?_
  refine yr_iconst 161 C (1) dL_law_160 rfl rfl ?_
  refine yr_iadd 162 C dL_law_161 rfl ?_
  rw [show nI (6 * n) + 1 = nI (6 * n + 1) from nI_add (6 * n) 1]
  refine yr_sld 163 C hXs hbl hbA (show 6 * n + 1 < L by omega) (by omega) dL_law_162 rfl ?_
  rw [jn_comm ap2]
  refine yr_V1v 166 C (yM_frame yZ_anti (mc_phase (yZ_ok t0 mi D dA) (xs (6 * n + 1)) hI hm hM) (apart_sy ap2)) dL_law_163 mt_X9_phase mv_X9_phase ml_L_17 (jn_l hM.1) rfl (Nat.le_of_ble_eq_true rfl) (Nat.le_of_ble_eq_true rfl) (Nat.le_trans (show c0 + 4 + 0 ≤ 500000 by omega) rl_c) (Nat.le_trans (show s0 + 120 + 0 ≤ 7000000 by omega) rl_s) (Nat.le_of_ble_eq_true rfl) rfl (fun h hq => ?_)
  obtain ⟨hm2, hM2, ap3, rfl⟩ := hq
  rw [jn_comm ap3]
  refine yr_icmp_eq 879 169 C dL_law_166 (by decide) rfl (fun c166 => ?_) (fun c166 => ?_)
  rotate_left
  · exact absurd rfl c166
  exact yr_widen (by omega) (by omega) (K _ _ _ hX2 hM2 (apart_sy ap3))
set_option maxHeartbeats 4000000 in
set_option maxRecDepth 100000 in
theorem law_1 (C : yC (yZ t0 mi D dA) D dA p s m args meth c cL_law 4 RL A) (hXs : va_X b L xs s s.heap) (hbl : b < s.heap.size) (hbA : ¬ A b) (hL : L ≤ 3072) (hn : 6 * n + 6 ≤ L) (hc : c0 + 10 ≤ 500000) (hs : s0 + 1000 ≤ 7000000) (hT : T + 4 < 2 ^ 20) (hX : XI dA t0 S x0 T hx) (hM : yMR dA ad m0 S hm) (ap : apart hx hm) (K : ∀ (S2 : yS) (hx2 hm2 : yH), XI dA t0 S2 x0 (T + 4) hx2 → yMR dA ad m0 S2 hm2 → apart hx2 hm2 → yW p l e room_1 s m args below meth c 4 D A (c0 + 10) (s0 + 1000) Q 879 [some (.ref b), some (.ref x0), some (.ref m0), some (.int (nI (6 * n)))] [] (jn hx2 hm2)) : yW p l e room_1 s m args below meth c 4 D A c0 s0 Q 171 [some (.ref b), some (.ref x0), some (.ref m0), some (.int (nI (6 * n)))] [] (jn hx hm) := by
  refine yr_aload_n 172 C dL_law_171 rfl rfl rfl ?_
  refine yr_aload_n 173 C dL_law_172 rfl rfl rfl ?_
  refine yr_iload_n 174 C dL_law_173 rfl rfl ?_
  refine yr_iconst 175 C (1) dL_law_174 rfl rfl ?_
  refine yr_iadd 176 C dL_law_175 rfl ?_
  rw [show nI (6 * n) + 1 = nI (6 * n + 1) from nI_add (6 * n) 1]
  refine yr_sld 177 C hXs hbl hbA (show 6 * n + 1 < L by omega) (by omega) dL_law_176 rfl ?_
  refine yr_aload_n 178 C dL_law_177 rfl rfl rfl ?_
  refine yr_iload_n 179 C dL_law_178 rfl rfl ?_
  refine yr_iconst 180 C (2) dL_law_179 rfl rfl ?_
  refine yr_iadd 181 C dL_law_180 rfl ?_
  rw [show nI (6 * n) + 2 = nI (6 * n + 2) from nI_add (6 * n) 2]
  refine yr_sld 182 C hXs hbl hbA (show 6 * n + 2 < L by omega) (by omega) dL_law_181 rfl ?_
  refine yr_aload_n 183 C dL_law_182 rfl rfl rfl ?_
  refine yr_iload_n 184 C dL_law_183 rfl rfl ?_
  refine yr_iconst 185 C (3) dL_law_184 rfl rfl ?_
  refine yr_iadd 186 C dL_law_185 rfl ?_
  rw [show nI (6 * n) + 3 = nI (6 * n + 3) from nI_add (6 * n) 3]
  refine yr_sld 187 C hXs hbl hbA (show 6 * n + 3 < L by omega) (by omega) dL_law_186 rfl ?_
  refine yr_aload_n 188 C dL_law_187 rfl rfl rfl ?_
  refine yr_iload_n 189 C dL_law_188 rfl rfl ?_
  refine yr_iconst 190 C (4) dL_law_189 rfl rfl ?_
  refine yr_iadd 191 C dL_law_190 rfl ?_
  rw [show nI (6 * n) + 4 = nI (6 * n + 4) from nI_add (6 * n) 4]
  refine yr_sld 192 C hXs hbl hbA (show 6 * n + 4 < L by omega) (by omega) dL_law_191 rfl ?_
  obtain ⟨fsx, hfx⟩ := XI_recv hX
  refine yr_V4v 195 C (yM_frame yZ_anti (xz_conflict (D := D) (mi := mi) (xs (6 * n + 1)) (xs (6 * n + 2)) (xs (6 * n + 3)) (xs (6 * n + 4)) hx hT hX) ap) dL_law_192 mt_X8_conflict mv_X8_conflict ml_L_18 (jn_l hfx) rfl (Nat.le_of_ble_eq_true rfl) (Nat.le_of_ble_eq_true rfl) (Nat.le_trans (show c0 + 0 ≤ 500000 by omega) rl_c) (Nat.le_trans (show s0 + 0 ≤ 7000000 by omega) rl_s) (Nat.le_of_ble_eq_true rfl) rfl (fun h hq => ?_)
  obtain ⟨hx2, hX2, ap2, rfl⟩ := hq
  obtain ⟨np, ns, nd, no, nr, t, hle, hI⟩ := XI_mI hX
  refine yr_aload_n 196 C dL_law_195 rfl rfl rfl ?_
  refine yr_aload_n 197 C dL_law_196 rfl rfl rfl ?_
  refine yr_iload_n 198 C dL_law_197 rfl rfl ?_
  refine yr_iconst 199 C (1) dL_law_198 rfl rfl ?_
  refine yr_iadd 200 C dL_law_199 rfl ?_
  rw [show nI (6 * n) + 1 = nI (6 * n + 1) from nI_add (6 * n) 1]
  refine yr_sld 201 C hXs hbl hbA (show 6 * n + 1 < L by omega) (by omega) dL_law_200 rfl ?_
  refine yr_aload_n 202 C dL_law_201 rfl rfl rfl ?_
  refine yr_iload_n 203 C dL_law_202 rfl rfl ?_
  refine yr_iconst 204 C (2) dL_law_203 rfl rfl ?_
  refine yr_iadd 205 C dL_law_204 rfl ?_
  rw [show nI (6 * n) + 2 = nI (6 * n + 2) from nI_add (6 * n) 2]
  refine yr_sld 206 C hXs hbl hbA (show 6 * n + 2 < L by omega) (by omega) dL_law_205 rfl ?_
  refine yr_aload_n 207 C dL_law_206 rfl rfl rfl ?_
  refine yr_iload_n 208 C dL_law_207 rfl rfl ?_
  refine yr_iconst 209 C (3) dL_law_208 rfl rfl ?_
  refine yr_iadd 210 C dL_law_209 rfl ?_
  rw [show nI (6 * n) + 3 = nI (6 * n + 3) from nI_add (6 * n) 3]
  refine yr_sld 211 C hXs hbl hbA (show 6 * n + 3 < L by omega) (by omega) dL_law_210 rfl ?_
  refine yr_aload_n 212 C dL_law_211 rfl rfl rfl ?_
  refine yr_iload_n 213 C dL_law_212 rfl rfl ?_
  refine yr_iconst 214 C (4) dL_law_213 rfl rfl ?_
  refine yr_iadd 215 C dL_law_214 rfl ?_
  rw [show nI (6 * n) + 4 = nI (6 * n + 4) from nI_add (6 * n) 4]
  refine yr_sld 216 C hXs hbl hbA (show 6 * n + 4 < L by omega) (by omega) dL_law_215 rfl ?_
  rw [jn_comm ap2]
  refine yr_V4v 219 C (yM_frame yZ_anti (mc_conflict (yZ_ok t0 mi D dA) (xs (6 * n + 1)) (xs (6 * n + 2)) (xs (6 * n + 3)) (xs (6 * n + 4)) hI (by omega) hm hM) (apart_sy ap2)) dL_law_216 mt_X9_conflict mv_X9_conflict ml_L_22 (jn_l hM.1) rfl (Nat.le_of_ble_eq_true rfl) (Nat.le_of_ble_eq_true rfl) (Nat.le_trans (show c0 + 0 + 0 ≤ 500000 by omega) rl_c) (Nat.le_trans (show s0 + 0 + 0 ≤ 7000000 by omega) rl_s) (Nat.le_of_ble_eq_true rfl) rfl (fun h hq => ?_)
  obtain ⟨hm2, hM2, ap3, rfl⟩ := hq
  rw [jn_comm ap3]
  refine yr_icmp_eq 879 222 C dL_law_219 (by decide) rfl (fun c219 => ?_) (fun c219 => ?_)
  rotate_left
  · exact absurd rfl c219
  exact yr_widen (by omega) (by omega) (K _ _ _ hX2 hM2 (apart_sy ap3))
set_option maxHeartbeats 4000000 in
set_option maxRecDepth 100000 in
theorem law_2 (C : yC (yZ t0 mi D dA) D dA p s m args meth c cL_law 4 RL A) (hXs : va_X b L xs s s.heap) (hbl : b < s.heap.size) (hbA : ¬ A b) (hL : L ≤ 3072) (hn : 6 * n + 6 ≤ L) (hc : c0 + 10 ≤ 500000) (hs : s0 + 1000 ≤ 7000000) (hT : T + 4 < 2 ^ 20) (hX : XI dA t0 S x0 T hx) (hM : yMR dA ad m0 S hm) (ap : apart hx hm) (K : ∀ (S2 : yS) (hx2 hm2 : yH), XI dA t0 S2 x0 (T + 4) hx2 → yMR dA ad m0 S2 hm2 → apart hx2 hm2 → yW p l e room_1 s m args below meth c 4 D A (c0 + 10) (s0 + 1000) Q 879 [some (.ref b), some (.ref x0), some (.ref m0), some (.int (nI (6 * n)))] [] (jn hx2 hm2)) : yW p l e room_1 s m args below meth c 4 D A c0 s0 Q 224 [some (.ref b), some (.ref x0), some (.ref m0), some (.int (nI (6 * n)))] [] (jn hx hm) := by
  refine yr_aload_n 225 C dL_law_224 rfl rfl rfl ?_
  refine yr_aload_n 226 C dL_law_225 rfl rfl rfl ?_
  refine yr_iload_n 227 C dL_law_226 rfl rfl ?_
  refine yr_iconst 228 C (1) dL_law_227 rfl rfl ?_
  refine yr_iadd 229 C dL_law_228 rfl ?_
  rw [show nI (6 * n) + 1 = nI (6 * n + 1) from nI_add (6 * n) 1]
  refine yr_sld 230 C hXs hbl hbA (show 6 * n + 1 < L by omega) (by omega) dL_law_229 rfl ?_
  refine yr_aload_n 231 C dL_law_230 rfl rfl rfl ?_
  refine yr_iload_n 232 C dL_law_231 rfl rfl ?_
  refine yr_iconst 233 C (2) dL_law_232 rfl rfl ?_
  refine yr_iadd 234 C dL_law_233 rfl ?_
  rw [show nI (6 * n) + 2 = nI (6 * n + 2) from nI_add (6 * n) 2]
  refine yr_sld 235 C hXs hbl hbA (show 6 * n + 2 < L by omega) (by omega) dL_law_234 rfl ?_
  refine yr_aload_n 236 C dL_law_235 rfl rfl rfl ?_
  refine yr_iload_n 237 C dL_law_236 rfl rfl ?_
  refine yr_iconst 238 C (3) dL_law_237 rfl rfl ?_
  refine yr_iadd 239 C dL_law_238 rfl ?_
  rw [show nI (6 * n) + 3 = nI (6 * n + 3) from nI_add (6 * n) 3]
  refine yr_sld 240 C hXs hbl hbA (show 6 * n + 3 < L by omega) (by omega) dL_law_239 rfl ?_
  refine yr_aload_n 241 C dL_law_240 rfl rfl rfl ?_
  refine yr_iload_n 242 C dL_law_241 rfl rfl ?_
  refine yr_iconst 243 C (4) dL_law_242 rfl rfl ?_
  refine yr_iadd 244 C dL_law_243 rfl ?_
  rw [show nI (6 * n) + 4 = nI (6 * n + 4) from nI_add (6 * n) 4]
  refine yr_sld 245 C hXs hbl hbA (show 6 * n + 4 < L by omega) (by omega) dL_law_244 rfl ?_
  obtain ⟨fsx, hfx⟩ := XI_recv hX
  refine yr_V4v 248 C (yM_frame yZ_anti (xz_stage (D := D) (mi := mi) (xs (6 * n + 1)) (xs (6 * n + 2)) (xs (6 * n + 3)) (xs (6 * n + 4)) hx hT hX) ap) dL_law_245 mt_X8_stage mv_X8_stage ml_L_23 (jn_l hfx) rfl (Nat.le_of_ble_eq_true rfl) (Nat.le_of_ble_eq_true rfl) (Nat.le_trans (show c0 + 4 ≤ 500000 by omega) rl_c) (Nat.le_trans (show s0 + 44 ≤ 7000000 by omega) rl_s) (Nat.le_of_ble_eq_true rfl) rfl (fun h hq => ?_)
  obtain ⟨hx2, hX2, ap2, rfl⟩ := hq
  obtain ⟨np, ns, nd, no, nr, t, hle, hI⟩ := XI_mI hX
  refine yr_aload_n 249 C dL_law_248 rfl rfl rfl ?_
  refine yr_aload_n 250 C dL_law_249 rfl rfl rfl ?_
  refine yr_iload_n 251 C dL_law_250 rfl rfl ?_
  refine yr_iconst 252 C (1) dL_law_251 rfl rfl ?_
  refine yr_iadd 253 C dL_law_252 rfl ?_
  rw [show nI (6 * n) + 1 = nI (6 * n + 1) from nI_add (6 * n) 1]
  refine yr_sld 254 C hXs hbl hbA (show 6 * n + 1 < L by omega) (by omega) dL_law_253 rfl ?_
  refine yr_aload_n 255 C dL_law_254 rfl rfl rfl ?_
  refine yr_iload_n 256 C dL_law_255 rfl rfl ?_
  refine yr_iconst 257 C (2) dL_law_256 rfl rfl ?_
  refine yr_iadd 258 C dL_law_257 rfl ?_
  rw [show nI (6 * n) + 2 = nI (6 * n + 2) from nI_add (6 * n) 2]
  refine yr_sld 259 C hXs hbl hbA (show 6 * n + 2 < L by omega) (by omega) dL_law_258 rfl ?_
  refine yr_aload_n 260 C dL_law_259 rfl rfl rfl ?_
  refine yr_iload_n 261 C dL_law_260 rfl rfl ?_
  refine yr_iconst 262 C (3) dL_law_261 rfl rfl ?_
  refine yr_iadd 263 C dL_law_262 rfl ?_
  rw [show nI (6 * n) + 3 = nI (6 * n + 3) from nI_add (6 * n) 3]
  refine yr_sld 264 C hXs hbl hbA (show 6 * n + 3 < L by omega) (by omega) dL_law_263 rfl ?_
  refine yr_aload_n 265 C dL_law_264 rfl rfl rfl ?_
  refine yr_iload_n 266 C dL_law_265 rfl rfl ?_
  refine yr_iconst 267 C (4) dL_law_266 rfl rfl ?_
  refine yr_iadd 268 C dL_law_267 rfl ?_
  rw [show nI (6 * n) + 4 = nI (6 * n + 4) from nI_add (6 * n) 4]
  refine yr_sld 269 C hXs hbl hbA (show 6 * n + 4 < L by omega) (by omega) dL_law_268 rfl ?_
  rw [jn_comm ap2]
  refine yr_V4v 272 C (yM_frame yZ_anti (mc_stage (yZ_ok t0 mi D dA) (xs (6 * n + 1)) (xs (6 * n + 2)) (xs (6 * n + 3)) (xs (6 * n + 4)) hI (by omega) hm hM) (apart_sy ap2)) dL_law_269 mt_X9_stage mv_X9_stage ml_L_26 (jn_l hM.1) rfl (Nat.le_of_ble_eq_true rfl) (Nat.le_of_ble_eq_true rfl) (Nat.le_trans (show c0 + 4 + 0 ≤ 500000 by omega) rl_c) (Nat.le_trans (show s0 + 44 + 0 ≤ 7000000 by omega) rl_s) (Nat.le_of_ble_eq_true rfl) rfl (fun h hq => ?_)
  obtain ⟨hm2, hM2, ap3, rfl⟩ := hq
  rw [jn_comm ap3]
  refine yr_icmp_eq 879 275 C dL_law_272 (by decide) rfl (fun c272 => ?_) (fun c272 => ?_)
  rotate_left
  · exact absurd rfl c272
  exact yr_widen (by omega) (by omega) (K _ _ _ hX2 hM2 (apart_sy ap3))
set_option maxHeartbeats 4000000 in
set_option maxRecDepth 100000 in
theorem law_3 (C : yC (yZ t0 mi D dA) D dA p s m args meth c cL_law 4 RL A) (hXs : va_X b L xs s s.heap) (hbl : b < s.heap.size) (hbA : ¬ A b) (hL : L ≤ 3072) (hn : 6 * n + 6 ≤ L) (hc : c0 + 10 ≤ 500000) (hs : s0 + 1000 ≤ 7000000) (hT : T + 4 < 2 ^ 20) (hX : XI dA t0 S x0 T hx) (hM : yMR dA ad m0 S hm) (ap : apart hx hm) (K : ∀ (S2 : yS) (hx2 hm2 : yH), XI dA t0 S2 x0 (T + 4) hx2 → yMR dA ad m0 S2 hm2 → apart hx2 hm2 → yW p l e room_1 s m args below meth c 4 D A (c0 + 10) (s0 + 1000) Q 879 [some (.ref b), some (.ref x0), some (.ref m0), some (.int (nI (6 * n)))] [] (jn hx2 hm2)) : yW p l e room_1 s m args below meth c 4 D A c0 s0 Q 277 [some (.ref b), some (.ref x0), some (.ref m0), some (.int (nI (6 * n)))] [] (jn hx hm) := by
  refine yr_aload_n 278 C dL_law_277 rfl rfl rfl ?_
  refine yr_aload_n 279 C dL_law_278 rfl rfl rfl ?_
  refine yr_iload_n 280 C dL_law_279 rfl rfl ?_
  refine yr_iconst 281 C (1) dL_law_280 rfl rfl ?_
  refine yr_iadd 282 C dL_law_281 rfl ?_
  rw [show nI (6 * n) + 1 = nI (6 * n + 1) from nI_add (6 * n) 1]
  refine yr_sld 283 C hXs hbl hbA (show 6 * n + 1 < L by omega) (by omega) dL_law_282 rfl ?_
  obtain ⟨fsx, hfx⟩ := XI_recv hX
  refine yr_V1v 286 C (yM_frame yZ_anti (xz_detector (D := D) (mi := mi) (xs (6 * n + 1)) hx hT hX) ap) dL_law_283 mt_X8_detector mv_X8_detector ml_L_27 (jn_l hfx) rfl (Nat.le_of_ble_eq_true rfl) (Nat.le_of_ble_eq_true rfl) (Nat.le_trans (show c0 + 4 ≤ 500000 by omega) rl_c) (Nat.le_trans (show s0 + 440 ≤ 7000000 by omega) rl_s) (Nat.le_of_ble_eq_true rfl) rfl (fun h hq => ?_)
  obtain ⟨hx2, hX2, ap2, rfl⟩ := hq
  obtain ⟨np, ns, nd, no, nr, t, hle, hI⟩ := XI_mI hX
  refine yr_aload_n 287 C dL_law_286 rfl rfl rfl ?_
  refine yr_aload_n 288 C dL_law_287 rfl rfl rfl ?_
  refine yr_iload_n 289 C dL_law_288 rfl rfl ?_
  refine yr_iconst 290 C (1) dL_law_289 rfl rfl ?_
  refine yr_iadd 291 C dL_law_290 rfl ?_
  rw [show nI (6 * n) + 1 = nI (6 * n + 1) from nI_add (6 * n) 1]
  refine yr_sld 292 C hXs hbl hbA (show 6 * n + 1 < L by omega) (by omega) dL_law_291 rfl ?_
  rw [jn_comm ap2]
  refine yr_V1v 295 C (yM_frame yZ_anti (mc_detector (yZ_ok t0 mi D dA) (xs (6 * n + 1)) hI hm hM) (apart_sy ap2)) dL_law_292 mt_X9_detector mv_X9_detector ml_L_30 (jn_l hM.1) rfl (Nat.le_of_ble_eq_true rfl) (Nat.le_of_ble_eq_true rfl) (Nat.le_trans (show c0 + 4 + 0 ≤ 500000 by omega) rl_c) (Nat.le_trans (show s0 + 440 + 0 ≤ 7000000 by omega) rl_s) (Nat.le_of_ble_eq_true rfl) rfl (fun h hq => ?_)
  obtain ⟨hm2, hM2, ap3, rfl⟩ := hq
  rw [jn_comm ap3]
  refine yr_icmp_eq 879 298 C dL_law_295 (by decide) rfl (fun c295 => ?_) (fun c295 => ?_)
  rotate_left
  · exact absurd rfl c295
  exact yr_widen (by omega) (by omega) (K _ _ _ hX2 hM2 (apart_sy ap3))
set_option maxHeartbeats 4000000 in
set_option maxRecDepth 100000 in
theorem law_4 (C : yC (yZ t0 mi D dA) D dA p s m args meth c cL_law 4 RL A) (hXs : va_X b L xs s s.heap) (hbl : b < s.heap.size) (hbA : ¬ A b) (hL : L ≤ 3072) (hn : 6 * n + 6 ≤ L) (hc : c0 + 10 ≤ 500000) (hs : s0 + 1000 ≤ 7000000) (hT : T + 4 < 2 ^ 20) (hX : XI dA t0 S x0 T hx) (hM : yMR dA ad m0 S hm) (ap : apart hx hm) (K : ∀ (S2 : yS) (hx2 hm2 : yH), XI dA t0 S2 x0 (T + 4) hx2 → yMR dA ad m0 S2 hm2 → apart hx2 hm2 → yW p l e room_1 s m args below meth c 4 D A (c0 + 10) (s0 + 1000) Q 879 [some (.ref b), some (.ref x0), some (.ref m0), some (.int (nI (6 * n)))] [] (jn hx2 hm2)) : yW p l e room_1 s m args below meth c 4 D A c0 s0 Q 300 [some (.ref b), some (.ref x0), some (.ref m0), some (.int (nI (6 * n)))] [] (jn hx hm) := by
  refine yr_aload_n 301 C dL_law_300 rfl rfl rfl ?_
  refine yr_aload_n 302 C dL_law_301 rfl rfl rfl ?_
  refine yr_iload_n 303 C dL_law_302 rfl rfl ?_
  refine yr_iconst 304 C (1) dL_law_303 rfl rfl ?_
  refine yr_iadd 305 C dL_law_304 rfl ?_
  rw [show nI (6 * n) + 1 = nI (6 * n + 1) from nI_add (6 * n) 1]
  refine yr_sld 306 C hXs hbl hbA (show 6 * n + 1 < L by omega) (by omega) dL_law_305 rfl ?_
  obtain ⟨fsx, hfx⟩ := XI_recv hX
  refine yr_V1v 309 C (yM_frame yZ_anti (xz_cut (D := D) (mi := mi) (xs (6 * n + 1)) hx hT hX) ap) dL_law_306 mt_X8_cut mv_X8_cut ml_L_31 (jn_l hfx) rfl (Nat.le_of_ble_eq_true rfl) (Nat.le_of_ble_eq_true rfl) (Nat.le_trans (show c0 + 0 ≤ 500000 by omega) rl_c) (Nat.le_trans (show s0 + 0 ≤ 7000000 by omega) rl_s) (Nat.le_of_ble_eq_true rfl) rfl (fun h hq => ?_)
  obtain ⟨hx2, hX2, ap2, rfl⟩ := hq
  obtain ⟨np, ns, nd, no, nr, t, hle, hI⟩ := XI_mI hX
  refine yr_aload_n 310 C dL_law_309 rfl rfl rfl ?_
  refine yr_aload_n 311 C dL_law_310 rfl rfl rfl ?_
  refine yr_iload_n 312 C dL_law_311 rfl rfl ?_
  refine yr_iconst 313 C (1) dL_law_312 rfl rfl ?_
  refine yr_iadd 314 C dL_law_313 rfl ?_
  rw [show nI (6 * n) + 1 = nI (6 * n + 1) from nI_add (6 * n) 1]
  refine yr_sld 315 C hXs hbl hbA (show 6 * n + 1 < L by omega) (by omega) dL_law_314 rfl ?_
  rw [jn_comm ap2]
  refine yr_V1v 318 C (yM_frame yZ_anti (mc_cut (yZ_ok t0 mi D dA) (xs (6 * n + 1)) hI hm hM) (apart_sy ap2)) dL_law_315 mt_X9_cut mv_X9_cut ml_L_34 (jn_l hM.1) rfl (Nat.le_of_ble_eq_true rfl) (Nat.le_of_ble_eq_true rfl) (Nat.le_trans (show c0 + 0 + 0 ≤ 500000 by omega) rl_c) (Nat.le_trans (show s0 + 0 + 0 ≤ 7000000 by omega) rl_s) (Nat.le_of_ble_eq_true rfl) rfl (fun h hq => ?_)
  obtain ⟨hm2, hM2, ap3, rfl⟩ := hq
  rw [jn_comm ap3]
  refine yr_icmp_eq 879 321 C dL_law_318 (by decide) rfl (fun c318 => ?_) (fun c318 => ?_)
  rotate_left
  · exact absurd rfl c318
  exact yr_widen (by omega) (by omega) (K _ _ _ hX2 hM2 (apart_sy ap3))
set_option maxHeartbeats 4000000 in
set_option maxRecDepth 100000 in
theorem law_5 (C : yC (yZ t0 mi D dA) D dA p s m args meth c cL_law 4 RL A) (hXs : va_X b L xs s s.heap) (hbl : b < s.heap.size) (hbA : ¬ A b) (hL : L ≤ 3072) (hn : 6 * n + 6 ≤ L) (hc : c0 + 10 ≤ 500000) (hs : s0 + 1000 ≤ 7000000) (hT : T + 4 < 2 ^ 20) (hX : XI dA t0 S x0 T hx) (hM : yMR dA ad m0 S hm) (ap : apart hx hm) (K : ∀ (S2 : yS) (hx2 hm2 : yH), XI dA t0 S2 x0 (T + 4) hx2 → yMR dA ad m0 S2 hm2 → apart hx2 hm2 → yW p l e room_1 s m args below meth c 4 D A (c0 + 10) (s0 + 1000) Q 879 [some (.ref b), some (.ref x0), some (.ref m0), some (.int (nI (6 * n)))] [] (jn hx2 hm2)) : yW p l e room_1 s m args below meth c 4 D A c0 s0 Q 323 [some (.ref b), some (.ref x0), some (.ref m0), some (.int (nI (6 * n)))] [] (jn hx hm) := by
  refine yr_aload_n 324 C dL_law_323 rfl rfl rfl ?_
  refine yr_aload_n 325 C dL_law_324 rfl rfl rfl ?_
  refine yr_iload_n 326 C dL_law_325 rfl rfl ?_
  refine yr_iconst 327 C (1) dL_law_326 rfl rfl ?_
  refine yr_iadd 328 C dL_law_327 rfl ?_
  rw [show nI (6 * n) + 1 = nI (6 * n + 1) from nI_add (6 * n) 1]
  refine yr_sld 329 C hXs hbl hbA (show 6 * n + 1 < L by omega) (by omega) dL_law_328 rfl ?_
  refine yr_aload_n 330 C dL_law_329 rfl rfl rfl ?_
  refine yr_iload_n 331 C dL_law_330 rfl rfl ?_
  refine yr_iconst 332 C (2) dL_law_331 rfl rfl ?_
  refine yr_iadd 333 C dL_law_332 rfl ?_
  rw [show nI (6 * n) + 2 = nI (6 * n + 2) from nI_add (6 * n) 2]
  refine yr_sld 334 C hXs hbl hbA (show 6 * n + 2 < L by omega) (by omega) dL_law_333 rfl ?_
  refine yr_aload_n 335 C dL_law_334 rfl rfl rfl ?_
  refine yr_iload_n 336 C dL_law_335 rfl rfl ?_
  refine yr_iconst 337 C (3) dL_law_336 rfl rfl ?_
  refine yr_iadd 338 C dL_law_337 rfl ?_
  rw [show nI (6 * n) + 3 = nI (6 * n + 3) from nI_add (6 * n) 3]
  refine yr_sld 339 C hXs hbl hbA (show 6 * n + 3 < L by omega) (by omega) dL_law_338 rfl ?_
  obtain ⟨fsx, hfx⟩ := XI_recv hX
  refine yr_V3v 342 C (yM_frame yZ_anti (xz_passing (D := D) (mi := mi) (xs (6 * n + 1)) (xs (6 * n + 2)) (xs (6 * n + 3)) hx hT hX) ap) dL_law_339 mt_X8_passing mv_X8_passing ml_L_35 (jn_l hfx) rfl (Nat.le_of_ble_eq_true rfl) (Nat.le_of_ble_eq_true rfl) (Nat.le_trans (show c0 + 0 ≤ 500000 by omega) rl_c) (Nat.le_trans (show s0 + 0 ≤ 7000000 by omega) rl_s) (Nat.le_of_ble_eq_true rfl) rfl (fun h hq => ?_)
  obtain ⟨hx2, hX2, ap2, rfl⟩ := hq
  obtain ⟨np, ns, nd, no, nr, t, hle, hI⟩ := XI_mI hX
  refine yr_aload_n 343 C dL_law_342 rfl rfl rfl ?_
  refine yr_aload_n 344 C dL_law_343 rfl rfl rfl ?_
  refine yr_iload_n 345 C dL_law_344 rfl rfl ?_
  refine yr_iconst 346 C (1) dL_law_345 rfl rfl ?_
  refine yr_iadd 347 C dL_law_346 rfl ?_
  rw [show nI (6 * n) + 1 = nI (6 * n + 1) from nI_add (6 * n) 1]
  refine yr_sld 348 C hXs hbl hbA (show 6 * n + 1 < L by omega) (by omega) dL_law_347 rfl ?_
  refine yr_aload_n 349 C dL_law_348 rfl rfl rfl ?_
  refine yr_iload_n 350 C dL_law_349 rfl rfl ?_
  refine yr_iconst 351 C (2) dL_law_350 rfl rfl ?_
  refine yr_iadd 352 C dL_law_351 rfl ?_
  rw [show nI (6 * n) + 2 = nI (6 * n + 2) from nI_add (6 * n) 2]
  refine yr_sld 353 C hXs hbl hbA (show 6 * n + 2 < L by omega) (by omega) dL_law_352 rfl ?_
  refine yr_aload_n 354 C dL_law_353 rfl rfl rfl ?_
  refine yr_iload_n 355 C dL_law_354 rfl rfl ?_
  refine yr_iconst 356 C (3) dL_law_355 rfl rfl ?_
  refine yr_iadd 357 C dL_law_356 rfl ?_
  rw [show nI (6 * n) + 3 = nI (6 * n + 3) from nI_add (6 * n) 3]
  refine yr_sld 358 C hXs hbl hbA (show 6 * n + 3 < L by omega) (by omega) dL_law_357 rfl ?_
  rw [jn_comm ap2]
  refine yr_V3v 361 C (yM_frame yZ_anti (mc_passing (yZ_ok t0 mi D dA) (xs (6 * n + 1)) (xs (6 * n + 2)) (xs (6 * n + 3)) hI hm hM) (apart_sy ap2)) dL_law_358 mt_X9_passing mv_X9_passing ml_L_39 (jn_l hM.1) rfl (Nat.le_of_ble_eq_true rfl) (Nat.le_of_ble_eq_true rfl) (Nat.le_trans (show c0 + 0 + 0 ≤ 500000 by omega) rl_c) (Nat.le_trans (show s0 + 0 + 0 ≤ 7000000 by omega) rl_s) (Nat.le_of_ble_eq_true rfl) rfl (fun h hq => ?_)
  obtain ⟨hm2, hM2, ap3, rfl⟩ := hq
  rw [jn_comm ap3]
  refine yr_icmp_eq 879 364 C dL_law_361 (by decide) rfl (fun c361 => ?_) (fun c361 => ?_)
  rotate_left
  · exact absurd rfl c361
  exact yr_widen (by omega) (by omega) (K _ _ _ hX2 hM2 (apart_sy ap3))
set_option maxHeartbeats 4000000 in
set_option maxRecDepth 100000 in
theorem law_6 (C : yC (yZ t0 mi D dA) D dA p s m args meth c cL_law 4 RL A) (hXs : va_X b L xs s s.heap) (hbl : b < s.heap.size) (hbA : ¬ A b) (hL : L ≤ 3072) (hn : 6 * n + 6 ≤ L) (hc : c0 + 10 ≤ 500000) (hs : s0 + 1000 ≤ 7000000) (hT : T + 4 < 2 ^ 20) (hX : XI dA t0 S x0 T hx) (hM : yMR dA ad m0 S hm) (ap : apart hx hm) (K : ∀ (S2 : yS) (hx2 hm2 : yH), XI dA t0 S2 x0 (T + 4) hx2 → yMR dA ad m0 S2 hm2 → apart hx2 hm2 → yW p l e room_1 s m args below meth c 4 D A (c0 + 10) (s0 + 1000) Q 879 [some (.ref b), some (.ref x0), some (.ref m0), some (.int (nI (6 * n)))] [] (jn hx2 hm2)) : yW p l e room_1 s m args below meth c 4 D A c0 s0 Q 366 [some (.ref b), some (.ref x0), some (.ref m0), some (.int (nI (6 * n)))] [] (jn hx hm) := by
  refine yr_aload_n 367 C dL_law_366 rfl rfl rfl ?_
  refine yr_aload_n 368 C dL_law_367 rfl rfl rfl ?_
  refine yr_iload_n 369 C dL_law_368 rfl rfl ?_
  refine yr_iconst 370 C (1) dL_law_369 rfl rfl ?_
  refine yr_iadd 371 C dL_law_370 rfl ?_
  rw [show nI (6 * n) + 1 = nI (6 * n + 1) from nI_add (6 * n) 1]
  refine yr_sld 372 C hXs hbl hbA (show 6 * n + 1 < L by omega) (by omega) dL_law_371 rfl ?_
  refine yr_aload_n 373 C dL_law_372 rfl rfl rfl ?_
  refine yr_iload_n 374 C dL_law_373 rfl rfl ?_
  refine yr_iconst 375 C (2) dL_law_374 rfl rfl ?_
  refine yr_iadd 376 C dL_law_375 rfl ?_
  rw [show nI (6 * n) + 2 = nI (6 * n + 2) from nI_add (6 * n) 2]
  refine yr_sld 377 C hXs hbl hbA (show 6 * n + 2 < L by omega) (by omega) dL_law_376 rfl ?_
  refine yr_aload_n 378 C dL_law_377 rfl rfl rfl ?_
  refine yr_iload_n 379 C dL_law_378 rfl rfl ?_
  refine yr_iconst 380 C (3) dL_law_379 rfl rfl ?_
  refine yr_iadd 381 C dL_law_380 rfl ?_
  rw [show nI (6 * n) + 3 = nI (6 * n + 3) from nI_add (6 * n) 3]
  refine yr_sld 382 C hXs hbl hbA (show 6 * n + 3 < L by omega) (by omega) dL_law_381 rfl ?_
  refine yr_aload_n 383 C dL_law_382 rfl rfl rfl ?_
  refine yr_iload_n 384 C dL_law_383 rfl rfl ?_
  refine yr_iconst 385 C (4) dL_law_384 rfl rfl ?_
  refine yr_iadd 386 C dL_law_385 rfl ?_
  rw [show nI (6 * n) + 4 = nI (6 * n + 4) from nI_add (6 * n) 4]
  refine yr_sld 387 C hXs hbl hbA (show 6 * n + 4 < L by omega) (by omega) dL_law_386 rfl ?_
  refine yr_aload_n 388 C dL_law_387 rfl rfl rfl ?_
  refine yr_iload_n 389 C dL_law_388 rfl rfl ?_
  refine yr_iconst 390 C (5) dL_law_389 rfl rfl ?_
  refine yr_iadd 391 C dL_law_390 rfl ?_
  rw [show nI (6 * n) + 5 = nI (6 * n + 5) from nI_add (6 * n) 5]
  refine yr_sld 392 C hXs hbl hbA (show 6 * n + 5 < L by omega) (by omega) dL_law_391 rfl ?_
  obtain ⟨fsx, hfx⟩ := XI_recv hX
  refine yr_V5v 395 C (yM_frame yZ_anti (xz_table (D := D) (mi := mi) (xs (6 * n + 1)) (xs (6 * n + 2)) (xs (6 * n + 3)) (xs (6 * n + 4)) (xs (6 * n + 5)) hx hT hX) ap) dL_law_392 mt_X8_table mv_X8_table ml_L_40 (jn_l hfx) rfl (Nat.le_of_ble_eq_true rfl) (Nat.le_of_ble_eq_true rfl) (Nat.le_trans (show c0 + 2 ≤ 500000 by omega) rl_c) (Nat.le_trans (show s0 + 35 ≤ 7000000 by omega) rl_s) (Nat.le_of_ble_eq_true rfl) rfl (fun h hq => ?_)
  obtain ⟨hx2, hX2, ap2, rfl⟩ := hq
  obtain ⟨np, ns, nd, no, nr, t, hle, hI⟩ := XI_mI hX
  refine yr_aload_n 396 C dL_law_395 rfl rfl rfl ?_
  refine yr_aload_n 397 C dL_law_396 rfl rfl rfl ?_
  refine yr_iload_n 398 C dL_law_397 rfl rfl ?_
  refine yr_iconst 399 C (1) dL_law_398 rfl rfl ?_
  refine yr_iadd 400 C dL_law_399 rfl ?_
  rw [show nI (6 * n) + 1 = nI (6 * n + 1) from nI_add (6 * n) 1]
  refine yr_sld 401 C hXs hbl hbA (show 6 * n + 1 < L by omega) (by omega) dL_law_400 rfl ?_
  refine yr_aload_n 402 C dL_law_401 rfl rfl rfl ?_
  refine yr_iload_n 403 C dL_law_402 rfl rfl ?_
  refine yr_iconst 404 C (2) dL_law_403 rfl rfl ?_
  refine yr_iadd 405 C dL_law_404 rfl ?_
  rw [show nI (6 * n) + 2 = nI (6 * n + 2) from nI_add (6 * n) 2]
  refine yr_sld 406 C hXs hbl hbA (show 6 * n + 2 < L by omega) (by omega) dL_law_405 rfl ?_
  refine yr_aload_n 407 C dL_law_406 rfl rfl rfl ?_
  refine yr_iload_n 408 C dL_law_407 rfl rfl ?_
  refine yr_iconst 409 C (3) dL_law_408 rfl rfl ?_
  refine yr_iadd 410 C dL_law_409 rfl ?_
  rw [show nI (6 * n) + 3 = nI (6 * n + 3) from nI_add (6 * n) 3]
  refine yr_sld 411 C hXs hbl hbA (show 6 * n + 3 < L by omega) (by omega) dL_law_410 rfl ?_
  refine yr_aload_n 412 C dL_law_411 rfl rfl rfl ?_
  refine yr_iload_n 413 C dL_law_412 rfl rfl ?_
  refine yr_iconst 414 C (4) dL_law_413 rfl rfl ?_
  refine yr_iadd 415 C dL_law_414 rfl ?_
  rw [show nI (6 * n) + 4 = nI (6 * n + 4) from nI_add (6 * n) 4]
  refine yr_sld 416 C hXs hbl hbA (show 6 * n + 4 < L by omega) (by omega) dL_law_415 rfl ?_
  refine yr_aload_n 417 C dL_law_416 rfl rfl rfl ?_
  refine yr_iload_n 418 C dL_law_417 rfl rfl ?_
  refine yr_iconst 419 C (5) dL_law_418 rfl rfl ?_
  refine yr_iadd 420 C dL_law_419 rfl ?_
  rw [show nI (6 * n) + 5 = nI (6 * n + 5) from nI_add (6 * n) 5]
  refine yr_sld 421 C hXs hbl hbA (show 6 * n + 5 < L by omega) (by omega) dL_law_420 rfl ?_
  rw [jn_comm ap2]
  refine yr_V5v 424 C (yM_frame yZ_anti (mc_table (yZ_ok t0 mi D dA) (xs (6 * n + 1)) (xs (6 * n + 2)) (xs (6 * n + 3)) (xs (6 * n + 4)) (xs (6 * n + 5)) hI hm hM) (apart_sy ap2)) dL_law_421 mt_X9_table mv_X9_table ml_L_44 (jn_l hM.1) rfl (Nat.le_of_ble_eq_true rfl) (Nat.le_of_ble_eq_true rfl) (Nat.le_trans (show c0 + 2 + 0 ≤ 500000 by omega) rl_c) (Nat.le_trans (show s0 + 35 + 0 ≤ 7000000 by omega) rl_s) (Nat.le_of_ble_eq_true rfl) rfl (fun h hq => ?_)
  obtain ⟨hm2, hM2, ap3, rfl⟩ := hq
  rw [jn_comm ap3]
  refine yr_icmp_eq 879 427 C dL_law_424 (by decide) rfl (fun c424 => ?_) (fun c424 => ?_)
  rotate_left
  · exact absurd rfl c424
  exact yr_widen (by omega) (by omega) (K _ _ _ hX2 hM2 (apart_sy ap3))
set_option maxHeartbeats 4000000 in
set_option maxRecDepth 100000 in
theorem law_7 (C : yC (yZ t0 mi D dA) D dA p s m args meth c cL_law 4 RL A) (hXs : va_X b L xs s s.heap) (hbl : b < s.heap.size) (hbA : ¬ A b) (hL : L ≤ 3072) (hn : 6 * n + 6 ≤ L) (hc : c0 + 10 ≤ 500000) (hs : s0 + 1000 ≤ 7000000) (hT : T + 4 < 2 ^ 20) (hX : XI dA t0 S x0 T hx) (hM : yMR dA ad m0 S hm) (ap : apart hx hm) (K : ∀ (S2 : yS) (hx2 hm2 : yH), XI dA t0 S2 x0 (T + 4) hx2 → yMR dA ad m0 S2 hm2 → apart hx2 hm2 → yW p l e room_1 s m args below meth c 4 D A (c0 + 10) (s0 + 1000) Q 879 [some (.ref b), some (.ref x0), some (.ref m0), some (.int (nI (6 * n)))] [] (jn hx2 hm2)) : yW p l e room_1 s m args below meth c 4 D A c0 s0 Q 429 [some (.ref b), some (.ref x0), some (.ref m0), some (.int (nI (6 * n)))] [] (jn hx hm) := by
  refine yr_aload_n 430 C dL_law_429 rfl rfl rfl ?_
  refine yr_aload_n 431 C dL_law_430 rfl rfl rfl ?_
  refine yr_iload_n 432 C dL_law_431 rfl rfl ?_
  refine yr_iconst 433 C (1) dL_law_432 rfl rfl ?_
  refine yr_iadd 434 C dL_law_433 rfl ?_
  rw [show nI (6 * n) + 1 = nI (6 * n + 1) from nI_add (6 * n) 1]
  refine yr_sld 435 C hXs hbl hbA (show 6 * n + 1 < L by omega) (by omega) dL_law_434 rfl ?_
  refine yr_aload_n 436 C dL_law_435 rfl rfl rfl ?_
  refine yr_iload_n 437 C dL_law_436 rfl rfl ?_
  refine yr_iconst 438 C (2) dL_law_437 rfl rfl ?_
  refine yr_iadd 439 C dL_law_438 rfl ?_
  rw [show nI (6 * n) + 2 = nI (6 * n + 2) from nI_add (6 * n) 2]
  refine yr_sld 440 C hXs hbl hbA (show 6 * n + 2 < L by omega) (by omega) dL_law_439 rfl ?_
  refine yr_if_eq 447 443 C dL_law_440 (by decide) rfl (fun c440 => ?_) (fun c440 => ?_)
  · refine yr_iconst 448 C (0) dL_law_447 rfl rfl ?_
    obtain ⟨fsx, hfx⟩ := XI_recv hX
    refine yr_V2v 451 C (yM_frame yZ_anti (xz_lamp (D := D) (mi := mi) (xs (6 * n + 1)) (0) (Or.inl rfl) hx hT hX) ap) dL_law_448 mt_X8_lamp mv_X8_lamp ml_L_45 (jn_l hfx) rfl (Nat.le_of_ble_eq_true rfl) (Nat.le_of_ble_eq_true rfl) (Nat.le_trans (show c0 + 0 ≤ 500000 by omega) rl_c) (Nat.le_trans (show s0 + 0 ≤ 7000000 by omega) rl_s) (Nat.le_of_ble_eq_true rfl) rfl (fun h hq => ?_)
    obtain ⟨hx2, hX2, ap2, rfl⟩ := hq
    obtain ⟨np, ns, nd, no, nr, t, hle, hI⟩ := XI_mI hX
    refine yr_aload_n 452 C dL_law_451 rfl rfl rfl ?_
    refine yr_aload_n 453 C dL_law_452 rfl rfl rfl ?_
    refine yr_iload_n 454 C dL_law_453 rfl rfl ?_
    refine yr_iconst 455 C (1) dL_law_454 rfl rfl ?_
    refine yr_iadd 456 C dL_law_455 rfl ?_
    rw [show nI (6 * n) + 1 = nI (6 * n + 1) from nI_add (6 * n) 1]
    refine yr_sld 457 C hXs hbl hbA (show 6 * n + 1 < L by omega) (by omega) dL_law_456 rfl ?_
    refine yr_aload_n 458 C dL_law_457 rfl rfl rfl ?_
    refine yr_iload_n 459 C dL_law_458 rfl rfl ?_
    refine yr_iconst 460 C (2) dL_law_459 rfl rfl ?_
    refine yr_iadd 461 C dL_law_460 rfl ?_
    rw [show nI (6 * n) + 2 = nI (6 * n + 2) from nI_add (6 * n) 2]
    refine yr_sld 462 C hXs hbl hbA (show 6 * n + 2 < L by omega) (by omega) dL_law_461 rfl ?_
    refine yr_if_eq 469 465 C dL_law_462 (by decide) rfl (fun c462 => ?_) (fun c462 => ?_)
    rotate_left
    · exact absurd c440 c462
    refine yr_iconst 470 C (0) dL_law_469 rfl rfl ?_
    rw [jn_comm ap2]
    refine yr_V2v 473 C (yM_frame yZ_anti (mc_lamp (yZ_ok t0 mi D dA) (xs (6 * n + 1)) (0) (Or.inl rfl) hI hm hM) (apart_sy ap2)) dL_law_470 mt_X9_lamp mv_X9_lamp ml_L_49 (jn_l hM.1) rfl (Nat.le_of_ble_eq_true rfl) (Nat.le_of_ble_eq_true rfl) (Nat.le_trans (show c0 + 0 + 0 ≤ 500000 by omega) rl_c) (Nat.le_trans (show s0 + 0 + 0 ≤ 7000000 by omega) rl_s) (Nat.le_of_ble_eq_true rfl) rfl (fun h hq => ?_)
    obtain ⟨hm2, hM2, ap3, rfl⟩ := hq
    rw [jn_comm ap3]
    refine yr_icmp_eq 879 476 C dL_law_473 (by decide) rfl (fun c473 => ?_) (fun c473 => ?_)
    rotate_left
    · exact absurd rfl c473
    exact yr_widen (by omega) (by omega) (K _ _ _ hX2 hM2 (apart_sy ap3))
  · refine yr_iconst 444 C (1) dL_law_443 rfl rfl ?_
    refine yr_goto 448 C dL_law_444 (by decide) ?_
    obtain ⟨fsx, hfx⟩ := XI_recv hX
    refine yr_V2v 451 C (yM_frame yZ_anti (xz_lamp (D := D) (mi := mi) (xs (6 * n + 1)) (1) (Or.inr rfl) hx hT hX) ap) dL_law_448 mt_X8_lamp mv_X8_lamp ml_L_45 (jn_l hfx) rfl (Nat.le_of_ble_eq_true rfl) (Nat.le_of_ble_eq_true rfl) (Nat.le_trans (show c0 + 0 ≤ 500000 by omega) rl_c) (Nat.le_trans (show s0 + 0 ≤ 7000000 by omega) rl_s) (Nat.le_of_ble_eq_true rfl) rfl (fun h hq => ?_)
    obtain ⟨hx2, hX2, ap2, rfl⟩ := hq
    obtain ⟨np, ns, nd, no, nr, t, hle, hI⟩ := XI_mI hX
    refine yr_aload_n 452 C dL_law_451 rfl rfl rfl ?_
    refine yr_aload_n 453 C dL_law_452 rfl rfl rfl ?_
    refine yr_iload_n 454 C dL_law_453 rfl rfl ?_
    refine yr_iconst 455 C (1) dL_law_454 rfl rfl ?_
    refine yr_iadd 456 C dL_law_455 rfl ?_
    rw [show nI (6 * n) + 1 = nI (6 * n + 1) from nI_add (6 * n) 1]
    refine yr_sld 457 C hXs hbl hbA (show 6 * n + 1 < L by omega) (by omega) dL_law_456 rfl ?_
    refine yr_aload_n 458 C dL_law_457 rfl rfl rfl ?_
    refine yr_iload_n 459 C dL_law_458 rfl rfl ?_
    refine yr_iconst 460 C (2) dL_law_459 rfl rfl ?_
    refine yr_iadd 461 C dL_law_460 rfl ?_
    rw [show nI (6 * n) + 2 = nI (6 * n + 2) from nI_add (6 * n) 2]
    refine yr_sld 462 C hXs hbl hbA (show 6 * n + 2 < L by omega) (by omega) dL_law_461 rfl ?_
    refine yr_if_eq 469 465 C dL_law_462 (by decide) rfl (fun c462 => ?_) (fun c462 => ?_)
    · exact absurd c462 c440
    refine yr_iconst 466 C (1) dL_law_465 rfl rfl ?_
    refine yr_goto 470 C dL_law_466 (by decide) ?_
    rw [jn_comm ap2]
    refine yr_V2v 473 C (yM_frame yZ_anti (mc_lamp (yZ_ok t0 mi D dA) (xs (6 * n + 1)) (1) (Or.inr rfl) hI hm hM) (apart_sy ap2)) dL_law_470 mt_X9_lamp mv_X9_lamp ml_L_49 (jn_l hM.1) rfl (Nat.le_of_ble_eq_true rfl) (Nat.le_of_ble_eq_true rfl) (Nat.le_trans (show c0 + 0 + 0 ≤ 500000 by omega) rl_c) (Nat.le_trans (show s0 + 0 + 0 ≤ 7000000 by omega) rl_s) (Nat.le_of_ble_eq_true rfl) rfl (fun h hq => ?_)
    obtain ⟨hm2, hM2, ap3, rfl⟩ := hq
    rw [jn_comm ap3]
    refine yr_icmp_eq 879 476 C dL_law_473 (by decide) rfl (fun c473 => ?_) (fun c473 => ?_)
    rotate_left
    · exact absurd rfl c473
    exact yr_widen (by omega) (by omega) (K _ _ _ hX2 hM2 (apart_sy ap3))
set_option maxHeartbeats 4000000 in
set_option maxRecDepth 100000 in
theorem law_8 (C : yC (yZ t0 mi D dA) D dA p s m args meth c cL_law 4 RL A) (hXs : va_X b L xs s s.heap) (hbl : b < s.heap.size) (hbA : ¬ A b) (hL : L ≤ 3072) (hn : 6 * n + 6 ≤ L) (hc : c0 + 10 ≤ 500000) (hs : s0 + 1000 ≤ 7000000) (hT : T + 4 < 2 ^ 20) (hX : XI dA t0 S x0 T hx) (hM : yMR dA ad m0 S hm) (ap : apart hx hm) (K : ∀ (S2 : yS) (hx2 hm2 : yH), XI dA t0 S2 x0 (T + 4) hx2 → yMR dA ad m0 S2 hm2 → apart hx2 hm2 → yW p l e room_1 s m args below meth c 4 D A (c0 + 10) (s0 + 1000) Q 879 [some (.ref b), some (.ref x0), some (.ref m0), some (.int (nI (6 * n)))] [] (jn hx2 hm2)) : yW p l e room_1 s m args below meth c 4 D A c0 s0 Q 478 [some (.ref b), some (.ref x0), some (.ref m0), some (.int (nI (6 * n)))] [] (jn hx hm) := by
  refine yr_aload_n 479 C dL_law_478 rfl rfl rfl ?_
  refine yr_aload_n 480 C dL_law_479 rfl rfl rfl ?_
  refine yr_iload_n 481 C dL_law_480 rfl rfl ?_
  refine yr_iconst 482 C (1) dL_law_481 rfl rfl ?_
  refine yr_iadd 483 C dL_law_482 rfl ?_
  rw [show nI (6 * n) + 1 = nI (6 * n + 1) from nI_add (6 * n) 1]
  refine yr_sld 484 C hXs hbl hbA (show 6 * n + 1 < L by omega) (by omega) dL_law_483 rfl ?_
  refine yr_aload_n 485 C dL_law_484 rfl rfl rfl ?_
  refine yr_iload_n 486 C dL_law_485 rfl rfl ?_
  refine yr_iconst 487 C (2) dL_law_486 rfl rfl ?_
  refine yr_iadd 488 C dL_law_487 rfl ?_
  rw [show nI (6 * n) + 2 = nI (6 * n + 2) from nI_add (6 * n) 2]
  refine yr_sld 489 C hXs hbl hbA (show 6 * n + 2 < L by omega) (by omega) dL_law_488 rfl ?_
  refine yr_aload_n 490 C dL_law_489 rfl rfl rfl ?_
  refine yr_iload_n 491 C dL_law_490 rfl rfl ?_
  refine yr_iconst 492 C (3) dL_law_491 rfl rfl ?_
  refine yr_iadd 493 C dL_law_492 rfl ?_
  rw [show nI (6 * n) + 3 = nI (6 * n + 3) from nI_add (6 * n) 3]
  refine yr_sld 494 C hXs hbl hbA (show 6 * n + 3 < L by omega) (by omega) dL_law_493 rfl ?_
  obtain ⟨fsx, hfx⟩ := XI_recv hX
  refine yr_V3v 497 C (yM_frame yZ_anti (xz_pair (D := D) (mi := mi) (xs (6 * n + 1)) (xs (6 * n + 2)) (xs (6 * n + 3)) hx hT hX) ap) dL_law_494 mt_X8_pair mv_X8_pair ml_L_50 (jn_l hfx) rfl (Nat.le_of_ble_eq_true rfl) (Nat.le_of_ble_eq_true rfl) (Nat.le_trans (show c0 + 2 ≤ 500000 by omega) rl_c) (Nat.le_trans (show s0 + 34 ≤ 7000000 by omega) rl_s) (Nat.le_of_ble_eq_true rfl) rfl (fun h hq => ?_)
  obtain ⟨hx2, hX2, ap2, rfl⟩ := hq
  obtain ⟨np, ns, nd, no, nr, t, hle, hI⟩ := XI_mI hX
  refine yr_aload_n 498 C dL_law_497 rfl rfl rfl ?_
  refine yr_aload_n 499 C dL_law_498 rfl rfl rfl ?_
  refine yr_iload_n 500 C dL_law_499 rfl rfl ?_
  refine yr_iconst 501 C (1) dL_law_500 rfl rfl ?_
  refine yr_iadd 502 C dL_law_501 rfl ?_
  rw [show nI (6 * n) + 1 = nI (6 * n + 1) from nI_add (6 * n) 1]
  refine yr_sld 503 C hXs hbl hbA (show 6 * n + 1 < L by omega) (by omega) dL_law_502 rfl ?_
  refine yr_aload_n 504 C dL_law_503 rfl rfl rfl ?_
  refine yr_iload_n 505 C dL_law_504 rfl rfl ?_
  refine yr_iconst 506 C (2) dL_law_505 rfl rfl ?_
  refine yr_iadd 507 C dL_law_506 rfl ?_
  rw [show nI (6 * n) + 2 = nI (6 * n + 2) from nI_add (6 * n) 2]
  refine yr_sld 508 C hXs hbl hbA (show 6 * n + 2 < L by omega) (by omega) dL_law_507 rfl ?_
  refine yr_aload_n 509 C dL_law_508 rfl rfl rfl ?_
  refine yr_iload_n 510 C dL_law_509 rfl rfl ?_
  refine yr_iconst 511 C (3) dL_law_510 rfl rfl ?_
  refine yr_iadd 512 C dL_law_511 rfl ?_
  rw [show nI (6 * n) + 3 = nI (6 * n + 3) from nI_add (6 * n) 3]
  refine yr_sld 513 C hXs hbl hbA (show 6 * n + 3 < L by omega) (by omega) dL_law_512 rfl ?_
  rw [jn_comm ap2]
  refine yr_V3v 516 C (yM_frame yZ_anti (mc_pair (yZ_ok t0 mi D dA) (xs (6 * n + 1)) (xs (6 * n + 2)) (xs (6 * n + 3)) hI hm hM) (apart_sy ap2)) dL_law_513 mt_X9_pair mv_X9_pair ml_L_53 (jn_l hM.1) rfl (Nat.le_of_ble_eq_true rfl) (Nat.le_of_ble_eq_true rfl) (Nat.le_trans (show c0 + 2 + 0 ≤ 500000 by omega) rl_c) (Nat.le_trans (show s0 + 34 + 0 ≤ 7000000 by omega) rl_s) (Nat.le_of_ble_eq_true rfl) rfl (fun h hq => ?_)
  obtain ⟨hm2, hM2, ap3, rfl⟩ := hq
  rw [jn_comm ap3]
  refine yr_icmp_eq 879 519 C dL_law_516 (by decide) rfl (fun c516 => ?_) (fun c516 => ?_)
  rotate_left
  · exact absurd rfl c516
  exact yr_widen (by omega) (by omega) (K _ _ _ hX2 hM2 (apart_sy ap3))
set_option maxHeartbeats 4000000 in
set_option maxRecDepth 100000 in
theorem law_9 (C : yC (yZ t0 mi D dA) D dA p s m args meth c cL_law 4 RL A) (hXs : va_X b L xs s s.heap) (hbl : b < s.heap.size) (hbA : ¬ A b) (hL : L ≤ 3072) (hn : 6 * n + 6 ≤ L) (hc : c0 + 10 ≤ 500000) (hs : s0 + 1000 ≤ 7000000) (hT : T + 4 < 2 ^ 20) (hX : XI dA t0 S x0 T hx) (hM : yMR dA ad m0 S hm) (ap : apart hx hm) (K : ∀ (S2 : yS) (hx2 hm2 : yH), XI dA t0 S2 x0 (T + 4) hx2 → yMR dA ad m0 S2 hm2 → apart hx2 hm2 → yW p l e room_1 s m args below meth c 4 D A (c0 + 10) (s0 + 1000) Q 879 [some (.ref b), some (.ref x0), some (.ref m0), some (.int (nI (6 * n)))] [] (jn hx2 hm2)) : yW p l e room_1 s m args below meth c 4 D A c0 s0 Q 521 [some (.ref b), some (.ref x0), some (.ref m0), some (.int (nI (6 * n)))] [] (jn hx hm) := by
  refine yr_aload_n 522 C dL_law_521 rfl rfl rfl ?_
  refine yr_aload_n 523 C dL_law_522 rfl rfl rfl ?_
  refine yr_iload_n 524 C dL_law_523 rfl rfl ?_
  refine yr_iconst 525 C (1) dL_law_524 rfl rfl ?_
  refine yr_iadd 526 C dL_law_525 rfl ?_
  rw [show nI (6 * n) + 1 = nI (6 * n + 1) from nI_add (6 * n) 1]
  refine yr_sld 527 C hXs hbl hbA (show 6 * n + 1 < L by omega) (by omega) dL_law_526 rfl ?_
  obtain ⟨fsx, hfx⟩ := XI_recv hX
  refine yr_V1v 530 C (yM_frame yZ_anti (xz_ask (D := D) (mi := mi) (xs (6 * n + 1)) hx hT hX) ap) dL_law_527 mt_X8_ask mv_X8_ask ml_L_54 (jn_l hfx) rfl (Nat.le_of_ble_eq_true rfl) (Nat.le_of_ble_eq_true rfl) (Nat.le_trans (show c0 + 0 ≤ 500000 by omega) rl_c) (Nat.le_trans (show s0 + 0 ≤ 7000000 by omega) rl_s) (Nat.le_of_ble_eq_true rfl) rfl (fun h hq => ?_)
  obtain ⟨hx2, hX2, ap2, rfl⟩ := hq
  obtain ⟨np, ns, nd, no, nr, t, hle, hI⟩ := XI_mI hX
  refine yr_aload_n 531 C dL_law_530 rfl rfl rfl ?_
  refine yr_aload_n 532 C dL_law_531 rfl rfl rfl ?_
  refine yr_iload_n 533 C dL_law_532 rfl rfl ?_
  refine yr_iconst 534 C (1) dL_law_533 rfl rfl ?_
  refine yr_iadd 535 C dL_law_534 rfl ?_
  rw [show nI (6 * n) + 1 = nI (6 * n + 1) from nI_add (6 * n) 1]
  refine yr_sld 536 C hXs hbl hbA (show 6 * n + 1 < L by omega) (by omega) dL_law_535 rfl ?_
  rw [jn_comm ap2]
  refine yr_V1v 539 C (yM_frame yZ_anti (mc_ask (yZ_ok t0 mi D dA) (xs (6 * n + 1)) hI hm hM) (apart_sy ap2)) dL_law_536 mt_X9_ask mv_X9_ask ml_L_57 (jn_l hM.1) rfl (Nat.le_of_ble_eq_true rfl) (Nat.le_of_ble_eq_true rfl) (Nat.le_trans (show c0 + 0 + 0 ≤ 500000 by omega) rl_c) (Nat.le_trans (show s0 + 0 + 0 ≤ 7000000 by omega) rl_s) (Nat.le_of_ble_eq_true rfl) rfl (fun h hq => ?_)
  obtain ⟨hm2, hM2, ap3, rfl⟩ := hq
  rw [jn_comm ap3]
  refine yr_icmp_eq 879 542 C dL_law_539 (by decide) rfl (fun c539 => ?_) (fun c539 => ?_)
  rotate_left
  · exact absurd rfl c539
  exact yr_widen (by omega) (by omega) (K _ _ _ hX2 hM2 (apart_sy ap3))
set_option maxHeartbeats 4000000 in
set_option maxRecDepth 100000 in
theorem law_10 (C : yC (yZ t0 mi D dA) D dA p s m args meth c cL_law 4 RL A) (hXs : va_X b L xs s s.heap) (hbl : b < s.heap.size) (hbA : ¬ A b) (hL : L ≤ 3072) (hn : 6 * n + 6 ≤ L) (hc : c0 + 10 ≤ 500000) (hs : s0 + 1000 ≤ 7000000) (hT : T + 4 < 2 ^ 20) (hX : XI dA t0 S x0 T hx) (hM : yMR dA ad m0 S hm) (ap : apart hx hm) (K : ∀ (S2 : yS) (hx2 hm2 : yH), XI dA t0 S2 x0 (T + 4) hx2 → yMR dA ad m0 S2 hm2 → apart hx2 hm2 → yW p l e room_1 s m args below meth c 4 D A (c0 + 10) (s0 + 1000) Q 879 [some (.ref b), some (.ref x0), some (.ref m0), some (.int (nI (6 * n)))] [] (jn hx2 hm2)) : yW p l e room_1 s m args below meth c 4 D A c0 s0 Q 544 [some (.ref b), some (.ref x0), some (.ref m0), some (.int (nI (6 * n)))] [] (jn hx hm) := by
  refine yr_aload_n 545 C dL_law_544 rfl rfl rfl ?_
  refine yr_aload_n 546 C dL_law_545 rfl rfl rfl ?_
  refine yr_iload_n 547 C dL_law_546 rfl rfl ?_
  refine yr_iconst 548 C (1) dL_law_547 rfl rfl ?_
  refine yr_iadd 549 C dL_law_548 rfl ?_
  rw [show nI (6 * n) + 1 = nI (6 * n + 1) from nI_add (6 * n) 1]
  refine yr_sld 550 C hXs hbl hbA (show 6 * n + 1 < L by omega) (by omega) dL_law_549 rfl ?_
  obtain ⟨fsx, hfx⟩ := XI_recv hX
  refine yr_V1v 553 C (yM_frame yZ_anti (xz_hurry (D := D) (mi := mi) (xs (6 * n + 1)) hx hT hX) ap) dL_law_550 mt_X8_hurry mv_X8_hurry ml_L_58 (jn_l hfx) rfl (Nat.le_of_ble_eq_true rfl) (Nat.le_of_ble_eq_true rfl) (Nat.le_trans (show c0 + 0 ≤ 500000 by omega) rl_c) (Nat.le_trans (show s0 + 0 ≤ 7000000 by omega) rl_s) (Nat.le_of_ble_eq_true rfl) rfl (fun h hq => ?_)
  obtain ⟨hx2, hX2, ap2, rfl⟩ := hq
  obtain ⟨np, ns, nd, no, nr, t, hle, hI⟩ := XI_mI hX
  refine yr_aload_n 554 C dL_law_553 rfl rfl rfl ?_
  refine yr_aload_n 555 C dL_law_554 rfl rfl rfl ?_
  refine yr_iload_n 556 C dL_law_555 rfl rfl ?_
  refine yr_iconst 557 C (1) dL_law_556 rfl rfl ?_
  refine yr_iadd 558 C dL_law_557 rfl ?_
  rw [show nI (6 * n) + 1 = nI (6 * n + 1) from nI_add (6 * n) 1]
  refine yr_sld 559 C hXs hbl hbA (show 6 * n + 1 < L by omega) (by omega) dL_law_558 rfl ?_
  rw [jn_comm ap2]
  refine yr_V1v 562 C (yM_frame yZ_anti (mc_hurry (yZ_ok t0 mi D dA) (xs (6 * n + 1)) hI hm hM) (apart_sy ap2)) dL_law_559 mt_X9_hurry mv_X9_hurry ml_L_61 (jn_l hM.1) rfl (Nat.le_of_ble_eq_true rfl) (Nat.le_of_ble_eq_true rfl) (Nat.le_trans (show c0 + 0 + 0 ≤ 500000 by omega) rl_c) (Nat.le_trans (show s0 + 0 + 0 ≤ 7000000 by omega) rl_s) (Nat.le_of_ble_eq_true rfl) rfl (fun h hq => ?_)
  obtain ⟨hm2, hM2, ap3, rfl⟩ := hq
  rw [jn_comm ap3]
  refine yr_icmp_eq 879 565 C dL_law_562 (by decide) rfl (fun c562 => ?_) (fun c562 => ?_)
  rotate_left
  · exact absurd rfl c562
  exact yr_widen (by omega) (by omega) (K _ _ _ hX2 hM2 (apart_sy ap3))
set_option maxHeartbeats 4000000 in
set_option maxRecDepth 100000 in
theorem law_11 (C : yC (yZ t0 mi D dA) D dA p s m args meth c cL_law 4 RL A) (hXs : va_X b L xs s s.heap) (hbl : b < s.heap.size) (hbA : ¬ A b) (hL : L ≤ 3072) (hn : 6 * n + 6 ≤ L) (hc : c0 + 10 ≤ 500000) (hs : s0 + 1000 ≤ 7000000) (hT : T + 4 < 2 ^ 20) (hX : XI dA t0 S x0 T hx) (hM : yMR dA ad m0 S hm) (ap : apart hx hm) (K : ∀ (S2 : yS) (hx2 hm2 : yH), XI dA t0 S2 x0 (T + 4) hx2 → yMR dA ad m0 S2 hm2 → apart hx2 hm2 → yW p l e room_1 s m args below meth c 4 D A (c0 + 10) (s0 + 1000) Q 879 [some (.ref b), some (.ref x0), some (.ref m0), some (.int (nI (6 * n)))] [] (jn hx2 hm2)) : yW p l e room_1 s m args below meth c 4 D A c0 s0 Q 567 [some (.ref b), some (.ref x0), some (.ref m0), some (.int (nI (6 * n)))] [] (jn hx hm) := by
  refine yr_aload_n 568 C dL_law_567 rfl rfl rfl ?_
  refine yr_aload_n 569 C dL_law_568 rfl rfl rfl ?_
  refine yr_iload_n 570 C dL_law_569 rfl rfl ?_
  refine yr_iconst 571 C (1) dL_law_570 rfl rfl ?_
  refine yr_iadd 572 C dL_law_571 rfl ?_
  rw [show nI (6 * n) + 1 = nI (6 * n + 1) from nI_add (6 * n) 1]
  refine yr_sld 573 C hXs hbl hbA (show 6 * n + 1 < L by omega) (by omega) dL_law_572 rfl ?_
  obtain ⟨fsx, hfx⟩ := XI_recv hX
  refine yr_V1v 576 C (yM_frame yZ_anti (xz_second (D := D) (mi := mi) (xs (6 * n + 1)) hx hT hX) ap) dL_law_573 mt_X8_second mv_X8_second ml_L_62 (jn_l hfx) rfl (Nat.le_of_ble_eq_true rfl) (Nat.le_of_ble_eq_true rfl) (Nat.le_trans (show c0 + 0 ≤ 500000 by omega) rl_c) (Nat.le_trans (show s0 + 0 ≤ 7000000 by omega) rl_s) (Nat.le_of_ble_eq_true rfl) rfl (fun h hq => ?_)
  obtain ⟨hx2, hX2, ap2, rfl⟩ := hq
  obtain ⟨np, ns, nd, no, nr, t, hle, hI⟩ := XI_mI hX
  refine yr_aload_n 577 C dL_law_576 rfl rfl rfl ?_
  refine yr_aload_n 578 C dL_law_577 rfl rfl rfl ?_
  refine yr_iload_n 579 C dL_law_578 rfl rfl ?_
  refine yr_iconst 580 C (1) dL_law_579 rfl rfl ?_
  refine yr_iadd 581 C dL_law_580 rfl ?_
  rw [show nI (6 * n) + 1 = nI (6 * n + 1) from nI_add (6 * n) 1]
  refine yr_sld 582 C hXs hbl hbA (show 6 * n + 1 < L by omega) (by omega) dL_law_581 rfl ?_
  rw [jn_comm ap2]
  refine yr_V1v 585 C (yM_frame yZ_anti (mc_second_open (yZ_ok t0 mi D dA) (xs (6 * n + 1)) hI (by omega) (fun S no t h1 h2 => mI_pass h1 h2) hm hM) (apart_sy ap2)) dL_law_582 mt_X9_second mv_X9_second ml_L_65 (jn_l hM.1) rfl (Nat.le_of_ble_eq_true rfl) (Nat.le_of_ble_eq_true rfl) (Nat.le_trans (show c0 + 0 + 0 ≤ 500000 by omega) rl_c) (Nat.le_trans (show s0 + 0 + 0 ≤ 7000000 by omega) rl_s) (Nat.le_of_ble_eq_true rfl) rfl (fun h hq => ?_)
  obtain ⟨hm2, hM2, ap3, rfl⟩ := hq
  rw [jn_comm ap3]
  refine yr_icmp_eq 879 588 C dL_law_585 (by decide) rfl (fun c585 => ?_) (fun c585 => ?_)
  rotate_left
  · exact absurd rfl c585
  exact yr_widen (by omega) (by omega) (K _ _ _ hX2 hM2 (apart_sy ap3))
set_option maxHeartbeats 4000000 in
set_option maxRecDepth 100000 in
theorem law_12 (C : yC (yZ t0 mi D dA) D dA p s m args meth c cL_law 4 RL A) (hXs : va_X b L xs s s.heap) (hbl : b < s.heap.size) (hbA : ¬ A b) (hL : L ≤ 3072) (hn : 6 * n + 6 ≤ L) (hc : c0 + 10 ≤ 500000) (hs : s0 + 1000 ≤ 7000000) (hT : T + 4 < 2 ^ 20) (hX : XI dA t0 S x0 T hx) (hM : yMR dA ad m0 S hm) (ap : apart hx hm) (K : ∀ (S2 : yS) (hx2 hm2 : yH), XI dA t0 S2 x0 (T + 4) hx2 → yMR dA ad m0 S2 hm2 → apart hx2 hm2 → yW p l e room_1 s m args below meth c 4 D A (c0 + 10) (s0 + 1000) Q 879 [some (.ref b), some (.ref x0), some (.ref m0), some (.int (nI (6 * n)))] [] (jn hx2 hm2)) : yW p l e room_1 s m args below meth c 4 D A c0 s0 Q 590 [some (.ref b), some (.ref x0), some (.ref m0), some (.int (nI (6 * n)))] [] (jn hx hm) := by
  refine yr_aload_n 591 C dL_law_590 rfl rfl rfl ?_
  obtain ⟨fsx, hfx⟩ := XI_recv hX
  refine yr_V0v 594 C (yM_frame yZ_anti (xz_alarm (D := D) (mi := mi)  hx hT hX) ap) dL_law_591 mt_X8_alarm mv_X8_alarm ml_L_66 (jn_l hfx) rfl (Nat.le_of_ble_eq_true rfl) (Nat.le_of_ble_eq_true rfl) (Nat.le_trans (show c0 + 0 ≤ 500000 by omega) rl_c) (Nat.le_trans (show s0 + 0 ≤ 7000000 by omega) rl_s) (Nat.le_of_ble_eq_true rfl) rfl (fun h hq => ?_)
  obtain ⟨hx2, hX2, ap2, rfl⟩ := hq
  obtain ⟨np, ns, nd, no, nr, t, hle, hI⟩ := XI_mI hX
  refine yr_aload_n 595 C dL_law_594 rfl rfl rfl ?_
  rw [jn_comm ap2]
  refine yr_V0v 598 C (yM_frame yZ_anti (mc_alarm (yZ_ok t0 mi D dA)  hI hm hM) (apart_sy ap2)) dL_law_595 mt_X9_alarm mv_X9_alarm ml_L_70 (jn_l hM.1) rfl (Nat.le_of_ble_eq_true rfl) (Nat.le_of_ble_eq_true rfl) (Nat.le_trans (show c0 + 0 + 0 ≤ 500000 by omega) rl_c) (Nat.le_trans (show s0 + 0 + 0 ≤ 7000000 by omega) rl_s) (Nat.le_of_ble_eq_true rfl) rfl (fun h hq => ?_)
  obtain ⟨hm2, hM2, ap3, rfl⟩ := hq
  rw [jn_comm ap3]
  refine yr_icmp_eq 879 601 C dL_law_598 (by decide) rfl (fun c598 => ?_) (fun c598 => ?_)
  rotate_left
  · exact absurd rfl c598
  exact yr_widen (by omega) (by omega) (K _ _ _ hX2 hM2 (apart_sy ap3))
set_option maxHeartbeats 4000000 in
set_option maxRecDepth 100000 in
theorem law_13 (C : yC (yZ t0 mi D dA) D dA p s m args meth c cL_law 4 RL A) (hXs : va_X b L xs s s.heap) (hbl : b < s.heap.size) (hbA : ¬ A b) (hL : L ≤ 3072) (hn : 6 * n + 6 ≤ L) (hc : c0 + 10 ≤ 500000) (hs : s0 + 1000 ≤ 7000000) (hT : T + 4 < 2 ^ 20) (hX : XI dA t0 S x0 T hx) (hM : yMR dA ad m0 S hm) (ap : apart hx hm) (K : ∀ (S2 : yS) (hx2 hm2 : yH), XI dA t0 S2 x0 (T + 4) hx2 → yMR dA ad m0 S2 hm2 → apart hx2 hm2 → yW p l e room_1 s m args below meth c 4 D A (c0 + 10) (s0 + 1000) Q 879 [some (.ref b), some (.ref x0), some (.ref m0), some (.int (nI (6 * n)))] [] (jn hx2 hm2)) : yW p l e room_1 s m args below meth c 4 D A c0 s0 Q 603 [some (.ref b), some (.ref x0), some (.ref m0), some (.int (nI (6 * n)))] [] (jn hx hm) := by
  refine yr_aload_n 604 C dL_law_603 rfl rfl rfl ?_
  obtain ⟨fsx, hfx⟩ := XI_recv hX
  refine yr_V0v 607 C (yM_frame yZ_anti (xz_restore (D := D) (mi := mi)  hx hT hX) ap) dL_law_604 mt_X8_restore mv_X8_restore ml_L_71 (jn_l hfx) rfl (Nat.le_of_ble_eq_true rfl) (Nat.le_of_ble_eq_true rfl) (Nat.le_trans (show c0 + 0 ≤ 500000 by omega) rl_c) (Nat.le_trans (show s0 + 0 ≤ 7000000 by omega) rl_s) (Nat.le_of_ble_eq_true rfl) rfl (fun h hq => ?_)
  obtain ⟨hx2, hX2, ap2, rfl⟩ := hq
  obtain ⟨np, ns, nd, no, nr, t, hle, hI⟩ := XI_mI hX
  refine yr_aload_n 608 C dL_law_607 rfl rfl rfl ?_
  rw [jn_comm ap2]
  refine yr_V0v 611 C (yM_frame yZ_anti (mc_restore (yZ_ok t0 mi D dA)  hI (by omega) hm hM) (apart_sy ap2)) dL_law_608 mt_X9_restore mv_X9_restore ml_L_74 (jn_l hM.1) rfl (Nat.le_of_ble_eq_true rfl) (Nat.le_of_ble_eq_true rfl) (Nat.le_trans (show c0 + 0 + 0 ≤ 500000 by omega) rl_c) (Nat.le_trans (show s0 + 0 + 0 ≤ 7000000 by omega) rl_s) (Nat.le_of_ble_eq_true rfl) rfl (fun h hq => ?_)
  obtain ⟨hm2, hM2, ap3, rfl⟩ := hq
  rw [jn_comm ap3]
  refine yr_icmp_eq 879 614 C dL_law_611 (by decide) rfl (fun c611 => ?_) (fun c611 => ?_)
  rotate_left
  · exact absurd rfl c611
  exact yr_widen (by omega) (by omega) (K _ _ _ hX2 hM2 (apart_sy ap3))
set_option maxHeartbeats 4000000 in
set_option maxRecDepth 100000 in
theorem law_14 (C : yC (yZ t0 mi D dA) D dA p s m args meth c cL_law 4 RL A) (hXs : va_X b L xs s s.heap) (hbl : b < s.heap.size) (hbA : ¬ A b) (hL : L ≤ 3072) (hn : 6 * n + 6 ≤ L) (hc : c0 + 10 ≤ 500000) (hs : s0 + 1000 ≤ 7000000) (hT : T + 4 < 2 ^ 20) (hX : XI dA t0 S x0 T hx) (hM : yMR dA ad m0 S hm) (ap : apart hx hm) (K : ∀ (S2 : yS) (hx2 hm2 : yH), XI dA t0 S2 x0 (T + 4) hx2 → yMR dA ad m0 S2 hm2 → apart hx2 hm2 → yW p l e room_1 s m args below meth c 4 D A (c0 + 10) (s0 + 1000) Q 879 [some (.ref b), some (.ref x0), some (.ref m0), some (.int (nI (6 * n)))] [] (jn hx2 hm2)) : yW p l e room_1 s m args below meth c 4 D A c0 s0 Q 616 [some (.ref b), some (.ref x0), some (.ref m0), some (.int (nI (6 * n)))] [] (jn hx hm) := by
  refine yr_aload_n 617 C dL_law_616 rfl rfl rfl ?_
  refine yr_aload_n 618 C dL_law_617 rfl rfl rfl ?_
  refine yr_iload_n 619 C dL_law_618 rfl rfl ?_
  refine yr_iconst 620 C (1) dL_law_619 rfl rfl ?_
  refine yr_iadd 621 C dL_law_620 rfl ?_
  rw [show nI (6 * n) + 1 = nI (6 * n + 1) from nI_add (6 * n) 1]
  refine yr_sld 622 C hXs hbl hbA (show 6 * n + 1 < L by omega) (by omega) dL_law_621 rfl ?_
  obtain ⟨fsx, hfx⟩ := XI_recv hX
  refine yr_V1v 625 C (yM_frame yZ_anti (xz_light (D := D) (mi := mi) (xs (6 * n + 1)) hx hT hX) ap) dL_law_622 mt_X8_light mv_X8_light ml_L_75 (jn_l hfx) rfl (Nat.le_of_ble_eq_true rfl) (Nat.le_of_ble_eq_true rfl) (Nat.le_trans (show c0 + 0 ≤ 500000 by omega) rl_c) (Nat.le_trans (show s0 + 0 ≤ 7000000 by omega) rl_s) (Nat.le_of_ble_eq_true rfl) rfl (fun h hq => ?_)
  obtain ⟨hx2, hX2, ap2, rfl⟩ := hq
  obtain ⟨np, ns, nd, no, nr, t, hle, hI⟩ := XI_mI hX
  refine yr_aload_n 626 C dL_law_625 rfl rfl rfl ?_
  refine yr_aload_n 627 C dL_law_626 rfl rfl rfl ?_
  refine yr_iload_n 628 C dL_law_627 rfl rfl ?_
  refine yr_iconst 629 C (1) dL_law_628 rfl rfl ?_
  refine yr_iadd 630 C dL_law_629 rfl ?_
  rw [show nI (6 * n) + 1 = nI (6 * n + 1) from nI_add (6 * n) 1]
  refine yr_sld 631 C hXs hbl hbA (show 6 * n + 1 < L by omega) (by omega) dL_law_630 rfl ?_
  rw [jn_comm ap2]
  refine yr_V1v 634 C (yM_frame yZ_anti (mc_light (yZ_ok t0 mi D dA) (xs (6 * n + 1)) hI hm hM) (apart_sy ap2)) dL_law_631 mt_X9_light mv_X9_light ml_L_78 (jn_l hM.1) rfl (Nat.le_of_ble_eq_true rfl) (Nat.le_of_ble_eq_true rfl) (Nat.le_trans (show c0 + 0 + 0 ≤ 500000 by omega) rl_c) (Nat.le_trans (show s0 + 0 + 0 ≤ 7000000 by omega) rl_s) (Nat.le_of_ble_eq_true rfl) rfl (fun h hq => ?_)
  obtain ⟨hm2, hM2, ap3, rfl⟩ := hq
  rw [jn_comm ap3]
  refine yr_icmp_eq 879 637 C dL_law_634 (by decide) rfl (fun c634 => ?_) (fun c634 => ?_)
  rotate_left
  · exact absurd rfl c634
  exact yr_widen (by omega) (by omega) (K _ _ _ hX2 hM2 (apart_sy ap3))
set_option maxHeartbeats 4000000 in
set_option maxRecDepth 100000 in
theorem law_15 (C : yC (yZ t0 mi D dA) D dA p s m args meth c cL_law 4 RL A) (hXs : va_X b L xs s s.heap) (hbl : b < s.heap.size) (hbA : ¬ A b) (hL : L ≤ 3072) (hn : 6 * n + 6 ≤ L) (hc : c0 + 10 ≤ 500000) (hs : s0 + 1000 ≤ 7000000) (hT : T + 4 < 2 ^ 20) (hX : XI dA t0 S x0 T hx) (hM : yMR dA ad m0 S hm) (ap : apart hx hm) (K : ∀ (S2 : yS) (hx2 hm2 : yH), XI dA t0 S2 x0 (T + 4) hx2 → yMR dA ad m0 S2 hm2 → apart hx2 hm2 → yW p l e room_1 s m args below meth c 4 D A (c0 + 10) (s0 + 1000) Q 879 [some (.ref b), some (.ref x0), some (.ref m0), some (.int (nI (6 * n)))] [] (jn hx2 hm2)) : yW p l e room_1 s m args below meth c 4 D A c0 s0 Q 639 [some (.ref b), some (.ref x0), some (.ref m0), some (.int (nI (6 * n)))] [] (jn hx hm) := by
  refine yr_aload_n 640 C dL_law_639 rfl rfl rfl ?_
  refine yr_aload_n 641 C dL_law_640 rfl rfl rfl ?_
  refine yr_iload_n 642 C dL_law_641 rfl rfl ?_
  refine yr_iconst 643 C (1) dL_law_642 rfl rfl ?_
  refine yr_iadd 644 C dL_law_643 rfl ?_
  rw [show nI (6 * n) + 1 = nI (6 * n + 1) from nI_add (6 * n) 1]
  refine yr_sld 645 C hXs hbl hbA (show 6 * n + 1 < L by omega) (by omega) dL_law_644 rfl ?_
  refine yr_aload_n 646 C dL_law_645 rfl rfl rfl ?_
  refine yr_iload_n 647 C dL_law_646 rfl rfl ?_
  refine yr_iconst 648 C (2) dL_law_647 rfl rfl ?_
  refine yr_iadd 649 C dL_law_648 rfl ?_
  rw [show nI (6 * n) + 2 = nI (6 * n + 2) from nI_add (6 * n) 2]
  refine yr_sld 650 C hXs hbl hbA (show 6 * n + 2 < L by omega) (by omega) dL_law_649 rfl ?_
  obtain ⟨fsx, hfx⟩ := XI_recv hX
  refine yr_V2v 653 C (yM_frame yZ_anti (xz_was (D := D) (mi := mi) (xs (6 * n + 1)) (xs (6 * n + 2)) hx hT hX) ap) dL_law_650 mt_X8_was mv_X8_was ml_L_79 (jn_l hfx) rfl (Nat.le_of_ble_eq_true rfl) (Nat.le_of_ble_eq_true rfl) (Nat.le_trans (show c0 + 0 ≤ 500000 by omega) rl_c) (Nat.le_trans (show s0 + 0 ≤ 7000000 by omega) rl_s) (Nat.le_of_ble_eq_true rfl) rfl (fun h hq => ?_)
  obtain ⟨hx2, hX2, ap2, rfl⟩ := hq
  obtain ⟨np, ns, nd, no, nr, t, hle, hI⟩ := XI_mI hX
  refine yr_aload_n 654 C dL_law_653 rfl rfl rfl ?_
  refine yr_aload_n 655 C dL_law_654 rfl rfl rfl ?_
  refine yr_iload_n 656 C dL_law_655 rfl rfl ?_
  refine yr_iconst 657 C (1) dL_law_656 rfl rfl ?_
  refine yr_iadd 658 C dL_law_657 rfl ?_
  rw [show nI (6 * n) + 1 = nI (6 * n + 1) from nI_add (6 * n) 1]
  refine yr_sld 659 C hXs hbl hbA (show 6 * n + 1 < L by omega) (by omega) dL_law_658 rfl ?_
  refine yr_aload_n 660 C dL_law_659 rfl rfl rfl ?_
  refine yr_iload_n 661 C dL_law_660 rfl rfl ?_
  refine yr_iconst 662 C (2) dL_law_661 rfl rfl ?_
  refine yr_iadd 663 C dL_law_662 rfl ?_
  rw [show nI (6 * n) + 2 = nI (6 * n + 2) from nI_add (6 * n) 2]
  refine yr_sld 664 C hXs hbl hbA (show 6 * n + 2 < L by omega) (by omega) dL_law_663 rfl ?_
  rw [jn_comm ap2]
  refine yr_V2v 667 C (yM_frame yZ_anti (mc_was (yZ_ok t0 mi D dA) (xs (6 * n + 1)) (xs (6 * n + 2)) hI (by omega) hm hM) (apart_sy ap2)) dL_law_664 mt_X9_was mv_X9_was ml_L_83 (jn_l hM.1) rfl (Nat.le_of_ble_eq_true rfl) (Nat.le_of_ble_eq_true rfl) (Nat.le_trans (show c0 + 0 + 0 ≤ 500000 by omega) rl_c) (Nat.le_trans (show s0 + 0 + 0 ≤ 7000000 by omega) rl_s) (Nat.le_of_ble_eq_true rfl) rfl (fun h hq => ?_)
  obtain ⟨hm2, hM2, ap3, rfl⟩ := hq
  rw [jn_comm ap3]
  refine yr_icmp_eq 879 670 C dL_law_667 (by decide) rfl (fun c667 => ?_) (fun c667 => ?_)
  rotate_left
  · exact absurd rfl c667
  exact yr_widen (by omega) (by omega) (K _ _ _ hX2 hM2 (apart_sy ap3))
set_option maxHeartbeats 4000000 in
set_option maxRecDepth 100000 in
theorem law_16 (C : yC (yZ t0 mi D dA) D dA p s m args meth c cL_law 4 RL A) (hXs : va_X b L xs s s.heap) (hbl : b < s.heap.size) (hbA : ¬ A b) (hL : L ≤ 3072) (hn : 6 * n + 6 ≤ L) (hc : c0 + 10 ≤ 500000) (hs : s0 + 1000 ≤ 7000000) (hT : T + 4 < 2 ^ 20) (hX : XI dA t0 S x0 T hx) (hM : yMR dA ad m0 S hm) (ap : apart hx hm) (K : ∀ (S2 : yS) (hx2 hm2 : yH), XI dA t0 S2 x0 (T + 4) hx2 → yMR dA ad m0 S2 hm2 → apart hx2 hm2 → yW p l e room_1 s m args below meth c 4 D A (c0 + 10) (s0 + 1000) Q 879 [some (.ref b), some (.ref x0), some (.ref m0), some (.int (nI (6 * n)))] [] (jn hx2 hm2)) : yW p l e room_1 s m args below meth c 4 D A c0 s0 Q 672 [some (.ref b), some (.ref x0), some (.ref m0), some (.int (nI (6 * n)))] [] (jn hx hm) := by
  refine yr_aload_n 673 C dL_law_672 rfl rfl rfl ?_
  refine yr_aload_n 674 C dL_law_673 rfl rfl rfl ?_
  refine yr_iload_n 675 C dL_law_674 rfl rfl ?_
  refine yr_iconst 676 C (1) dL_law_675 rfl rfl ?_
  refine yr_iadd 677 C dL_law_676 rfl ?_
  rw [show nI (6 * n) + 1 = nI (6 * n + 1) from nI_add (6 * n) 1]
  refine yr_sld 678 C hXs hbl hbA (show 6 * n + 1 < L by omega) (by omega) dL_law_677 rfl ?_
  obtain ⟨fsx, hfx⟩ := XI_recv hX
  refine yr_V1v 681 C (yM_frame yZ_anti (xz_stageOf (D := D) (mi := mi) (xs (6 * n + 1)) hx hT hX) ap) dL_law_678 mt_X8_stageOf mv_X8_stageOf ml_L_84 (jn_l hfx) rfl (Nat.le_of_ble_eq_true rfl) (Nat.le_of_ble_eq_true rfl) (Nat.le_trans (show c0 + 0 ≤ 500000 by omega) rl_c) (Nat.le_trans (show s0 + 0 ≤ 7000000 by omega) rl_s) (Nat.le_of_ble_eq_true rfl) rfl (fun h hq => ?_)
  obtain ⟨hx2, hX2, ap2, rfl⟩ := hq
  obtain ⟨np, ns, nd, no, nr, t, hle, hI⟩ := XI_mI hX
  refine yr_aload_n 682 C dL_law_681 rfl rfl rfl ?_
  refine yr_aload_n 683 C dL_law_682 rfl rfl rfl ?_
  refine yr_iload_n 684 C dL_law_683 rfl rfl ?_
  refine yr_iconst 685 C (1) dL_law_684 rfl rfl ?_
  refine yr_iadd 686 C dL_law_685 rfl ?_
  rw [show nI (6 * n) + 1 = nI (6 * n + 1) from nI_add (6 * n) 1]
  refine yr_sld 687 C hXs hbl hbA (show 6 * n + 1 < L by omega) (by omega) dL_law_686 rfl ?_
  rw [jn_comm ap2]
  refine yr_V1v 690 C (yM_frame yZ_anti (mc_stageOf (yZ_ok t0 mi D dA) (xs (6 * n + 1)) hI (by omega) hm hM) (apart_sy ap2)) dL_law_687 mt_X9_stageOf mv_X9_stageOf ml_L_87 (jn_l hM.1) rfl (Nat.le_of_ble_eq_true rfl) (Nat.le_of_ble_eq_true rfl) (Nat.le_trans (show c0 + 0 + 0 ≤ 500000 by omega) rl_c) (Nat.le_trans (show s0 + 0 + 0 ≤ 7000000 by omega) rl_s) (Nat.le_of_ble_eq_true rfl) rfl (fun h hq => ?_)
  obtain ⟨hm2, hM2, ap3, rfl⟩ := hq
  rw [jn_comm ap3]
  refine yr_icmp_eq 879 693 C dL_law_690 (by decide) rfl (fun c690 => ?_) (fun c690 => ?_)
  rotate_left
  · exact absurd rfl c690
  exact yr_widen (by omega) (by omega) (K _ _ _ hX2 hM2 (apart_sy ap3))
set_option maxHeartbeats 4000000 in
set_option maxRecDepth 100000 in
theorem law_17 (C : yC (yZ t0 mi D dA) D dA p s m args meth c cL_law 4 RL A) (hXs : va_X b L xs s s.heap) (hbl : b < s.heap.size) (hbA : ¬ A b) (hL : L ≤ 3072) (hn : 6 * n + 6 ≤ L) (hc : c0 + 10 ≤ 500000) (hs : s0 + 1000 ≤ 7000000) (hT : T + 4 < 2 ^ 20) (hX : XI dA t0 S x0 T hx) (hM : yMR dA ad m0 S hm) (ap : apart hx hm) (K : ∀ (S2 : yS) (hx2 hm2 : yH), XI dA t0 S2 x0 (T + 4) hx2 → yMR dA ad m0 S2 hm2 → apart hx2 hm2 → yW p l e room_1 s m args below meth c 4 D A (c0 + 10) (s0 + 1000) Q 879 [some (.ref b), some (.ref x0), some (.ref m0), some (.int (nI (6 * n)))] [] (jn hx2 hm2)) : yW p l e room_1 s m args below meth c 4 D A c0 s0 Q 695 [some (.ref b), some (.ref x0), some (.ref m0), some (.int (nI (6 * n)))] [] (jn hx hm) := by
  refine yr_aload_n 696 C dL_law_695 rfl rfl rfl ?_
  refine yr_aload_n 697 C dL_law_696 rfl rfl rfl ?_
  refine yr_iload_n 698 C dL_law_697 rfl rfl ?_
  refine yr_iconst 699 C (1) dL_law_698 rfl rfl ?_
  refine yr_iadd 700 C dL_law_699 rfl ?_
  rw [show nI (6 * n) + 1 = nI (6 * n + 1) from nI_add (6 * n) 1]
  refine yr_sld 701 C hXs hbl hbA (show 6 * n + 1 < L by omega) (by omega) dL_law_700 rfl ?_
  refine yr_aload_n 702 C dL_law_701 rfl rfl rfl ?_
  refine yr_iload_n 703 C dL_law_702 rfl rfl ?_
  refine yr_iconst 704 C (2) dL_law_703 rfl rfl ?_
  refine yr_iadd 705 C dL_law_704 rfl ?_
  rw [show nI (6 * n) + 2 = nI (6 * n + 2) from nI_add (6 * n) 2]
  refine yr_sld 706 C hXs hbl hbA (show 6 * n + 2 < L by omega) (by omega) dL_law_705 rfl ?_
  obtain ⟨fsx, hfx⟩ := XI_recv hX
  refine yr_V2v 709 C (yM_frame yZ_anti (xz_place (D := D) (mi := mi) (xs (6 * n + 1)) (xs (6 * n + 2)) hx hT hX) ap) dL_law_706 mt_X8_place mv_X8_place ml_L_88 (jn_l hfx) rfl (Nat.le_of_ble_eq_true rfl) (Nat.le_of_ble_eq_true rfl) (Nat.le_trans (show c0 + 0 ≤ 500000 by omega) rl_c) (Nat.le_trans (show s0 + 0 ≤ 7000000 by omega) rl_s) (Nat.le_of_ble_eq_true rfl) rfl (fun h hq => ?_)
  obtain ⟨hx2, hX2, ap2, rfl⟩ := hq
  obtain ⟨np, ns, nd, no, nr, t, hle, hI⟩ := XI_mI hX
  refine yr_aload_n 710 C dL_law_709 rfl rfl rfl ?_
  refine yr_aload_n 711 C dL_law_710 rfl rfl rfl ?_
  refine yr_iload_n 712 C dL_law_711 rfl rfl ?_
  refine yr_iconst 713 C (1) dL_law_712 rfl rfl ?_
  refine yr_iadd 714 C dL_law_713 rfl ?_
  rw [show nI (6 * n) + 1 = nI (6 * n + 1) from nI_add (6 * n) 1]
  refine yr_sld 715 C hXs hbl hbA (show 6 * n + 1 < L by omega) (by omega) dL_law_714 rfl ?_
  refine yr_aload_n 716 C dL_law_715 rfl rfl rfl ?_
  refine yr_iload_n 717 C dL_law_716 rfl rfl ?_
  refine yr_iconst 718 C (2) dL_law_717 rfl rfl ?_
  refine yr_iadd 719 C dL_law_718 rfl ?_
  rw [show nI (6 * n) + 2 = nI (6 * n + 2) from nI_add (6 * n) 2]
  refine yr_sld 720 C hXs hbl hbA (show 6 * n + 2 < L by omega) (by omega) dL_law_719 rfl ?_
  rw [jn_comm ap2]
  refine yr_V2v 723 C (yM_frame yZ_anti (mc_place (yZ_ok t0 mi D dA) (xs (6 * n + 1)) (xs (6 * n + 2)) hI (by omega) hm hM) (apart_sy ap2)) dL_law_720 mt_X9_place mv_X9_place ml_L_91 (jn_l hM.1) rfl (Nat.le_of_ble_eq_true rfl) (Nat.le_of_ble_eq_true rfl) (Nat.le_trans (show c0 + 0 + 0 ≤ 500000 by omega) rl_c) (Nat.le_trans (show s0 + 0 + 0 ≤ 7000000 by omega) rl_s) (Nat.le_of_ble_eq_true rfl) rfl (fun h hq => ?_)
  obtain ⟨hm2, hM2, ap3, rfl⟩ := hq
  rw [jn_comm ap3]
  refine yr_icmp_eq 879 726 C dL_law_723 (by decide) rfl (fun c723 => ?_) (fun c723 => ?_)
  rotate_left
  · exact absurd rfl c723
  exact yr_widen (by omega) (by omega) (K _ _ _ hX2 hM2 (apart_sy ap3))
set_option maxHeartbeats 4000000 in
set_option maxRecDepth 100000 in
theorem law_18 (C : yC (yZ t0 mi D dA) D dA p s m args meth c cL_law 4 RL A) (hXs : va_X b L xs s s.heap) (hbl : b < s.heap.size) (hbA : ¬ A b) (hL : L ≤ 3072) (hn : 6 * n + 6 ≤ L) (hc : c0 + 10 ≤ 500000) (hs : s0 + 1000 ≤ 7000000) (hT : T + 4 < 2 ^ 20) (hX : XI dA t0 S x0 T hx) (hM : yMR dA ad m0 S hm) (ap : apart hx hm) (K : ∀ (S2 : yS) (hx2 hm2 : yH), XI dA t0 S2 x0 (T + 4) hx2 → yMR dA ad m0 S2 hm2 → apart hx2 hm2 → yW p l e room_1 s m args below meth c 4 D A (c0 + 10) (s0 + 1000) Q 879 [some (.ref b), some (.ref x0), some (.ref m0), some (.int (nI (6 * n)))] [] (jn hx2 hm2)) : yW p l e room_1 s m args below meth c 4 D A c0 s0 Q 728 [some (.ref b), some (.ref x0), some (.ref m0), some (.int (nI (6 * n)))] [] (jn hx hm) := by
  refine yr_aload_n 729 C dL_law_728 rfl rfl rfl ?_
  refine yr_aload_n 730 C dL_law_729 rfl rfl rfl ?_
  refine yr_iload_n 731 C dL_law_730 rfl rfl ?_
  refine yr_iconst 732 C (1) dL_law_731 rfl rfl ?_
  refine yr_iadd 733 C dL_law_732 rfl ?_
  rw [show nI (6 * n) + 1 = nI (6 * n + 1) from nI_add (6 * n) 1]
  refine yr_sld 734 C hXs hbl hbA (show 6 * n + 1 < L by omega) (by omega) dL_law_733 rfl ?_
  refine yr_aload_n 735 C dL_law_734 rfl rfl rfl ?_
  refine yr_iload_n 736 C dL_law_735 rfl rfl ?_
  refine yr_iconst 737 C (2) dL_law_736 rfl rfl ?_
  refine yr_iadd 738 C dL_law_737 rfl ?_
  rw [show nI (6 * n) + 2 = nI (6 * n + 2) from nI_add (6 * n) 2]
  refine yr_sld 739 C hXs hbl hbA (show 6 * n + 2 < L by omega) (by omega) dL_law_738 rfl ?_
  obtain ⟨fsx, hfx⟩ := XI_recv hX
  refine yr_V2v 742 C (yM_frame yZ_anti (xz_told (D := D) (mi := mi) (xs (6 * n + 1)) (xs (6 * n + 2)) hx hT hX) ap) dL_law_739 mt_X8_told mv_X8_told ml_L_92 (jn_l hfx) rfl (Nat.le_of_ble_eq_true rfl) (Nat.le_of_ble_eq_true rfl) (Nat.le_trans (show c0 + 0 ≤ 500000 by omega) rl_c) (Nat.le_trans (show s0 + 0 ≤ 7000000 by omega) rl_s) (Nat.le_of_ble_eq_true rfl) rfl (fun h hq => ?_)
  obtain ⟨hx2, hX2, ap2, rfl⟩ := hq
  obtain ⟨np, ns, nd, no, nr, t, hle, hI⟩ := XI_mI hX
  refine yr_aload_n 743 C dL_law_742 rfl rfl rfl ?_
  refine yr_aload_n 744 C dL_law_743 rfl rfl rfl ?_
  refine yr_iload_n 745 C dL_law_744 rfl rfl ?_
  refine yr_iconst 746 C (1) dL_law_745 rfl rfl ?_
  refine yr_iadd 747 C dL_law_746 rfl ?_
  rw [show nI (6 * n) + 1 = nI (6 * n + 1) from nI_add (6 * n) 1]
  refine yr_sld 748 C hXs hbl hbA (show 6 * n + 1 < L by omega) (by omega) dL_law_747 rfl ?_
  refine yr_aload_n 749 C dL_law_748 rfl rfl rfl ?_
  refine yr_iload_n 750 C dL_law_749 rfl rfl ?_
  refine yr_iconst 751 C (2) dL_law_750 rfl rfl ?_
  refine yr_iadd 752 C dL_law_751 rfl ?_
  rw [show nI (6 * n) + 2 = nI (6 * n + 2) from nI_add (6 * n) 2]
  refine yr_sld 753 C hXs hbl hbA (show 6 * n + 2 < L by omega) (by omega) dL_law_752 rfl ?_
  rw [jn_comm ap2]
  refine yr_V2v 756 C (yM_frame yZ_anti (mc_told (yZ_ok t0 mi D dA) (xs (6 * n + 1)) (xs (6 * n + 2)) hI (by omega) hm hM) (apart_sy ap2)) dL_law_753 mt_X9_told mv_X9_told ml_L_95 (jn_l hM.1) rfl (Nat.le_of_ble_eq_true rfl) (Nat.le_of_ble_eq_true rfl) (Nat.le_trans (show c0 + 0 + 0 ≤ 500000 by omega) rl_c) (Nat.le_trans (show s0 + 0 + 0 ≤ 7000000 by omega) rl_s) (Nat.le_of_ble_eq_true rfl) rfl (fun h hq => ?_)
  obtain ⟨hm2, hM2, ap3, rfl⟩ := hq
  rw [jn_comm ap3]
  refine yr_icmp_eq 879 759 C dL_law_756 (by decide) rfl (fun c756 => ?_) (fun c756 => ?_)
  rotate_left
  · exact absurd rfl c756
  exact yr_widen (by omega) (by omega) (K _ _ _ hX2 hM2 (apart_sy ap3))
set_option maxHeartbeats 4000000 in
set_option maxRecDepth 100000 in
theorem law_19 (C : yC (yZ t0 mi D dA) D dA p s m args meth c cL_law 4 RL A) (hXs : va_X b L xs s s.heap) (hbl : b < s.heap.size) (hbA : ¬ A b) (hL : L ≤ 3072) (hn : 6 * n + 6 ≤ L) (hc : c0 + 10 ≤ 500000) (hs : s0 + 1000 ≤ 7000000) (hT : T + 4 < 2 ^ 20) (hX : XI dA t0 S x0 T hx) (hM : yMR dA ad m0 S hm) (ap : apart hx hm) (K : ∀ (S2 : yS) (hx2 hm2 : yH), XI dA t0 S2 x0 (T + 4) hx2 → yMR dA ad m0 S2 hm2 → apart hx2 hm2 → yW p l e room_1 s m args below meth c 4 D A (c0 + 10) (s0 + 1000) Q 879 [some (.ref b), some (.ref x0), some (.ref m0), some (.int (nI (6 * n)))] [] (jn hx2 hm2)) : yW p l e room_1 s m args below meth c 4 D A c0 s0 Q 761 [some (.ref b), some (.ref x0), some (.ref m0), some (.int (nI (6 * n)))] [] (jn hx hm) := by
  refine yr_aload_n 762 C dL_law_761 rfl rfl rfl ?_
  refine yr_aload_n 763 C dL_law_762 rfl rfl rfl ?_
  refine yr_iload_n 764 C dL_law_763 rfl rfl ?_
  refine yr_iconst 765 C (1) dL_law_764 rfl rfl ?_
  refine yr_iadd 766 C dL_law_765 rfl ?_
  rw [show nI (6 * n) + 1 = nI (6 * n + 1) from nI_add (6 * n) 1]
  refine yr_sld 767 C hXs hbl hbA (show 6 * n + 1 < L by omega) (by omega) dL_law_766 rfl ?_
  obtain ⟨fsx, hfx⟩ := XI_recv hX
  refine yr_V1v 770 C (yM_frame yZ_anti (xz_length (D := D) (mi := mi) (xs (6 * n + 1)) hx hT hX) ap) dL_law_767 mt_X8_length mv_X8_length ml_L_96 (jn_l hfx) rfl (Nat.le_of_ble_eq_true rfl) (Nat.le_of_ble_eq_true rfl) (Nat.le_trans (show c0 + 0 ≤ 500000 by omega) rl_c) (Nat.le_trans (show s0 + 0 ≤ 7000000 by omega) rl_s) (Nat.le_of_ble_eq_true rfl) rfl (fun h hq => ?_)
  obtain ⟨hx2, hX2, ap2, rfl⟩ := hq
  obtain ⟨np, ns, nd, no, nr, t, hle, hI⟩ := XI_mI hX
  refine yr_aload_n 771 C dL_law_770 rfl rfl rfl ?_
  refine yr_aload_n 772 C dL_law_771 rfl rfl rfl ?_
  refine yr_iload_n 773 C dL_law_772 rfl rfl ?_
  refine yr_iconst 774 C (1) dL_law_773 rfl rfl ?_
  refine yr_iadd 775 C dL_law_774 rfl ?_
  rw [show nI (6 * n) + 1 = nI (6 * n + 1) from nI_add (6 * n) 1]
  refine yr_sld 776 C hXs hbl hbA (show 6 * n + 1 < L by omega) (by omega) dL_law_775 rfl ?_
  rw [jn_comm ap2]
  refine yr_V1v 779 C (yM_frame yZ_anti (mc_length (yZ_ok t0 mi D dA) (xs (6 * n + 1)) hI hm hM) (apart_sy ap2)) dL_law_776 mt_X9_length mv_X9_length ml_L_99 (jn_l hM.1) rfl (Nat.le_of_ble_eq_true rfl) (Nat.le_of_ble_eq_true rfl) (Nat.le_trans (show c0 + 0 + 0 ≤ 500000 by omega) rl_c) (Nat.le_trans (show s0 + 0 + 0 ≤ 7000000 by omega) rl_s) (Nat.le_of_ble_eq_true rfl) rfl (fun h hq => ?_)
  obtain ⟨hm2, hM2, ap3, rfl⟩ := hq
  rw [jn_comm ap3]
  refine yr_icmp_eq 879 782 C dL_law_779 (by decide) rfl (fun c779 => ?_) (fun c779 => ?_)
  rotate_left
  · exact absurd rfl c779
  exact yr_widen (by omega) (by omega) (K _ _ _ hX2 hM2 (apart_sy ap3))
set_option maxHeartbeats 4000000 in
set_option maxRecDepth 100000 in
theorem law_20 (C : yC (yZ t0 mi D dA) D dA p s m args meth c cL_law 4 RL A) (hXs : va_X b L xs s s.heap) (hbl : b < s.heap.size) (hbA : ¬ A b) (hL : L ≤ 3072) (hn : 6 * n + 6 ≤ L) (hc : c0 + 10 ≤ 500000) (hs : s0 + 1000 ≤ 7000000) (hT : T + 4 < 2 ^ 20) (hX : XI dA t0 S x0 T hx) (hM : yMR dA ad m0 S hm) (ap : apart hx hm) (K : ∀ (S2 : yS) (hx2 hm2 : yH), XI dA t0 S2 x0 (T + 4) hx2 → yMR dA ad m0 S2 hm2 → apart hx2 hm2 → yW p l e room_1 s m args below meth c 4 D A (c0 + 10) (s0 + 1000) Q 879 [some (.ref b), some (.ref x0), some (.ref m0), some (.int (nI (6 * n)))] [] (jn hx2 hm2)) : yW p l e room_1 s m args below meth c 4 D A c0 s0 Q 784 [some (.ref b), some (.ref x0), some (.ref m0), some (.int (nI (6 * n)))] [] (jn hx hm) := by
  refine yr_aload_n 785 C dL_law_784 rfl rfl rfl ?_
  obtain ⟨fsx, hfx⟩ := XI_recv hX
  refine yr_V0v 788 C (yM_frame yZ_anti (xz_bound (D := D) (mi := mi)  hx hT hX) ap) dL_law_785 mt_X8_bound mv_X8_bound ml_L_100 (jn_l hfx) rfl (Nat.le_of_ble_eq_true rfl) (Nat.le_of_ble_eq_true rfl) (Nat.le_trans (show c0 + 0 ≤ 500000 by omega) rl_c) (Nat.le_trans (show s0 + 0 ≤ 7000000 by omega) rl_s) (Nat.le_of_ble_eq_true rfl) rfl (fun h hq => ?_)
  obtain ⟨hx2, hX2, ap2, rfl⟩ := hq
  obtain ⟨np, ns, nd, no, nr, t, hle, hI⟩ := XI_mI hX
  refine yr_aload_n 789 C dL_law_788 rfl rfl rfl ?_
  rw [jn_comm ap2]
  refine yr_V0v 792 C (yM_frame yZ_anti (mc_bound (yZ_ok t0 mi D dA)  hI (by omega) hm hM) (apart_sy ap2)) dL_law_789 mt_X9_bound mv_X9_bound ml_L_103 (jn_l hM.1) rfl (Nat.le_of_ble_eq_true rfl) (Nat.le_of_ble_eq_true rfl) (Nat.le_trans (show c0 + 0 + 0 ≤ 500000 by omega) rl_c) (Nat.le_trans (show s0 + 0 + 0 ≤ 7000000 by omega) rl_s) (Nat.le_of_ble_eq_true rfl) rfl (fun h hq => ?_)
  obtain ⟨hm2, hM2, ap3, rfl⟩ := hq
  rw [jn_comm ap3]
  refine yr_icmp_eq 879 795 C dL_law_792 (by decide) rfl (fun c792 => ?_) (fun c792 => ?_)
  rotate_left
  · exact absurd rfl c792
  exact yr_widen (by omega) (by omega) (K _ _ _ hX2 hM2 (apart_sy ap3))
set_option maxHeartbeats 4000000 in
set_option maxRecDepth 100000 in
theorem law_21 (C : yC (yZ t0 mi D dA) D dA p s m args meth c cL_law 4 RL A) (hXs : va_X b L xs s s.heap) (hbl : b < s.heap.size) (hbA : ¬ A b) (hL : L ≤ 3072) (hn : 6 * n + 6 ≤ L) (hc : c0 + 10 ≤ 500000) (hs : s0 + 1000 ≤ 7000000) (hT : T + 4 < 2 ^ 20) (hX : XI dA t0 S x0 T hx) (hM : yMR dA ad m0 S hm) (ap : apart hx hm) (K : ∀ (S2 : yS) (hx2 hm2 : yH), XI dA t0 S2 x0 (T + 4) hx2 → yMR dA ad m0 S2 hm2 → apart hx2 hm2 → yW p l e room_1 s m args below meth c 4 D A (c0 + 10) (s0 + 1000) Q 879 [some (.ref b), some (.ref x0), some (.ref m0), some (.int (nI (6 * n)))] [] (jn hx2 hm2)) : yW p l e room_1 s m args below meth c 4 D A c0 s0 Q 797 [some (.ref b), some (.ref x0), some (.ref m0), some (.int (nI (6 * n)))] [] (jn hx hm) := by
  refine yr_aload_n 798 C dL_law_797 rfl rfl rfl ?_
  refine yr_aload_n 799 C dL_law_798 rfl rfl rfl ?_
  refine yr_iload_n 800 C dL_law_799 rfl rfl ?_
  refine yr_iconst 801 C (1) dL_law_800 rfl rfl ?_
  refine yr_iadd 802 C dL_law_801 rfl ?_
  rw [show nI (6 * n) + 1 = nI (6 * n + 1) from nI_add (6 * n) 1]
  refine yr_sld 803 C hXs hbl hbA (show 6 * n + 1 < L by omega) (by omega) dL_law_802 rfl ?_
  obtain ⟨fsx, hfx⟩ := XI_recv hX
  refine yr_V1v 806 C (yM_frame yZ_anti (xz_count (D := D) (mi := mi) (xs (6 * n + 1)) hx hT hX) ap) dL_law_803 mt_X8_count mv_X8_count ml_L_104 (jn_l hfx) rfl (Nat.le_of_ble_eq_true rfl) (Nat.le_of_ble_eq_true rfl) (Nat.le_trans (show c0 + 0 ≤ 500000 by omega) rl_c) (Nat.le_trans (show s0 + 0 ≤ 7000000 by omega) rl_s) (Nat.le_of_ble_eq_true rfl) rfl (fun h hq => ?_)
  obtain ⟨hx2, hX2, ap2, rfl⟩ := hq
  obtain ⟨np, ns, nd, no, nr, t, hle, hI⟩ := XI_mI hX
  refine yr_aload_n 807 C dL_law_806 rfl rfl rfl ?_
  refine yr_aload_n 808 C dL_law_807 rfl rfl rfl ?_
  refine yr_iload_n 809 C dL_law_808 rfl rfl ?_
  refine yr_iconst 810 C (1) dL_law_809 rfl rfl ?_
  refine yr_iadd 811 C dL_law_810 rfl ?_
  rw [show nI (6 * n) + 1 = nI (6 * n + 1) from nI_add (6 * n) 1]
  refine yr_sld 812 C hXs hbl hbA (show 6 * n + 1 < L by omega) (by omega) dL_law_811 rfl ?_
  rw [jn_comm ap2]
  refine yr_V1v 815 C (yM_frame yZ_anti (mc_count (yZ_ok t0 mi D dA) (xs (6 * n + 1)) hI (by omega) hm hM) (apart_sy ap2)) dL_law_812 mt_X9_count mv_X9_count ml_L_107 (jn_l hM.1) rfl (Nat.le_of_ble_eq_true rfl) (Nat.le_of_ble_eq_true rfl) (Nat.le_trans (show c0 + 0 + 0 ≤ 500000 by omega) rl_c) (Nat.le_trans (show s0 + 0 + 0 ≤ 7000000 by omega) rl_s) (Nat.le_of_ble_eq_true rfl) rfl (fun h hq => ?_)
  obtain ⟨hm2, hM2, ap3, rfl⟩ := hq
  rw [jn_comm ap3]
  refine yr_icmp_eq 879 818 C dL_law_815 (by decide) rfl (fun c815 => ?_) (fun c815 => ?_)
  rotate_left
  · exact absurd rfl c815
  exact yr_widen (by omega) (by omega) (K _ _ _ hX2 hM2 (apart_sy ap3))
set_option maxHeartbeats 4000000 in
set_option maxRecDepth 100000 in
theorem law_22 (C : yC (yZ t0 mi D dA) D dA p s m args meth c cL_law 4 RL A) (hXs : va_X b L xs s s.heap) (hbl : b < s.heap.size) (hbA : ¬ A b) (hL : L ≤ 3072) (hn : 6 * n + 6 ≤ L) (hc : c0 + 10 ≤ 500000) (hs : s0 + 1000 ≤ 7000000) (hT : T + 4 < 2 ^ 20) (hX : XI dA t0 S x0 T hx) (hM : yMR dA ad m0 S hm) (ap : apart hx hm) (K : ∀ (S2 : yS) (hx2 hm2 : yH), XI dA t0 S2 x0 (T + 4) hx2 → yMR dA ad m0 S2 hm2 → apart hx2 hm2 → yW p l e room_1 s m args below meth c 4 D A (c0 + 10) (s0 + 1000) Q 879 [some (.ref b), some (.ref x0), some (.ref m0), some (.int (nI (6 * n)))] [] (jn hx2 hm2)) : yW p l e room_1 s m args below meth c 4 D A c0 s0 Q 820 [some (.ref b), some (.ref x0), some (.ref m0), some (.int (nI (6 * n)))] [] (jn hx hm) := by
  refine yr_aload_n 821 C dL_law_820 rfl rfl rfl ?_
  refine yr_aload_n 822 C dL_law_821 rfl rfl rfl ?_
  refine yr_iload_n 823 C dL_law_822 rfl rfl ?_
  refine yr_iconst 824 C (1) dL_law_823 rfl rfl ?_
  refine yr_iadd 825 C dL_law_824 rfl ?_
  rw [show nI (6 * n) + 1 = nI (6 * n + 1) from nI_add (6 * n) 1]
  refine yr_sld 826 C hXs hbl hbA (show 6 * n + 1 < L by omega) (by omega) dL_law_825 rfl ?_
  obtain ⟨fsx, hfx⟩ := XI_recv hX
  refine yr_V1v 829 C (yM_frame yZ_anti (xz_finding (D := D) (mi := mi) (xs (6 * n + 1)) hx hT hX) ap) dL_law_826 mt_X8_finding mv_X8_finding ml_L_108 (jn_l hfx) rfl (Nat.le_of_ble_eq_true rfl) (Nat.le_of_ble_eq_true rfl) (Nat.le_trans (show c0 + 0 ≤ 500000 by omega) rl_c) (Nat.le_trans (show s0 + 0 ≤ 7000000 by omega) rl_s) (Nat.le_of_ble_eq_true rfl) rfl (fun h hq => ?_)
  obtain ⟨hx2, hX2, ap2, rfl⟩ := hq
  obtain ⟨np, ns, nd, no, nr, t, hle, hI⟩ := XI_mI hX
  refine yr_aload_n 830 C dL_law_829 rfl rfl rfl ?_
  refine yr_aload_n 831 C dL_law_830 rfl rfl rfl ?_
  refine yr_iload_n 832 C dL_law_831 rfl rfl ?_
  refine yr_iconst 833 C (1) dL_law_832 rfl rfl ?_
  refine yr_iadd 834 C dL_law_833 rfl ?_
  rw [show nI (6 * n) + 1 = nI (6 * n + 1) from nI_add (6 * n) 1]
  refine yr_sld 835 C hXs hbl hbA (show 6 * n + 1 < L by omega) (by omega) dL_law_834 rfl ?_
  rw [jn_comm ap2]
  refine yr_V1v 838 C (yM_frame yZ_anti (mc_finding (yZ_ok t0 mi D dA) (xs (6 * n + 1)) hI hm hM) (apart_sy ap2)) dL_law_835 mt_X9_finding mv_X9_finding ml_L_111 (jn_l hM.1) rfl (Nat.le_of_ble_eq_true rfl) (Nat.le_of_ble_eq_true rfl) (Nat.le_trans (show c0 + 0 + 0 ≤ 500000 by omega) rl_c) (Nat.le_trans (show s0 + 0 + 0 ≤ 7000000 by omega) rl_s) (Nat.le_of_ble_eq_true rfl) rfl (fun h hq => ?_)
  obtain ⟨hm2, hM2, ap3, rfl⟩ := hq
  rw [jn_comm ap3]
  refine yr_icmp_eq 879 841 C dL_law_838 (by decide) rfl (fun c838 => ?_) (fun c838 => ?_)
  rotate_left
  · exact absurd rfl c838
  exact yr_widen (by omega) (by omega) (K _ _ _ hX2 hM2 (apart_sy ap3))
set_option maxHeartbeats 4000000 in
set_option maxRecDepth 100000 in
theorem law_23 (C : yC (yZ t0 mi D dA) D dA p s m args meth c cL_law 4 RL A) (hXs : va_X b L xs s s.heap) (hbl : b < s.heap.size) (hbA : ¬ A b) (hL : L ≤ 3072) (hn : 6 * n + 6 ≤ L) (hc : c0 + 10 ≤ 500000) (hs : s0 + 1000 ≤ 7000000) (hT : T + 4 < 2 ^ 20) (hX : XI dA t0 S x0 T hx) (hM : yMR dA ad m0 S hm) (ap : apart hx hm) (K : ∀ (S2 : yS) (hx2 hm2 : yH), XI dA t0 S2 x0 (T + 4) hx2 → yMR dA ad m0 S2 hm2 → apart hx2 hm2 → yW p l e room_1 s m args below meth c 4 D A (c0 + 10) (s0 + 1000) Q 879 [some (.ref b), some (.ref x0), some (.ref m0), some (.int (nI (6 * n)))] [] (jn hx2 hm2)) : yW p l e room_1 s m args below meth c 4 D A c0 s0 Q 843 [some (.ref b), some (.ref x0), some (.ref m0), some (.int (nI (6 * n)))] [] (jn hx hm) := by
  refine yr_aload_n 844 C dL_law_843 rfl rfl rfl ?_
  refine yr_aload_n 845 C dL_law_844 rfl rfl rfl ?_
  refine yr_iload_n 846 C dL_law_845 rfl rfl ?_
  refine yr_iconst 847 C (1) dL_law_846 rfl rfl ?_
  refine yr_iadd 848 C dL_law_847 rfl ?_
  rw [show nI (6 * n) + 1 = nI (6 * n + 1) from nI_add (6 * n) 1]
  refine yr_sld 849 C hXs hbl hbA (show 6 * n + 1 < L by omega) (by omega) dL_law_848 rfl ?_
  obtain ⟨fsx, hfx⟩ := XI_recv hX
  refine yr_V1v 852 C (yM_frame yZ_anti (xz_fault (D := D) (mi := mi) (xs (6 * n + 1)) hx hT hX) ap) dL_law_849 mt_X8_fault mv_X8_fault ml_L_112 (jn_l hfx) rfl (Nat.le_of_ble_eq_true rfl) (Nat.le_of_ble_eq_true rfl) (Nat.le_trans (show c0 + 0 ≤ 500000 by omega) rl_c) (Nat.le_trans (show s0 + 0 ≤ 7000000 by omega) rl_s) (Nat.le_of_ble_eq_true rfl) rfl (fun h hq => ?_)
  obtain ⟨hx2, hX2, ap2, rfl⟩ := hq
  obtain ⟨np, ns, nd, no, nr, t, hle, hI⟩ := XI_mI hX
  refine yr_aload_n 853 C dL_law_852 rfl rfl rfl ?_
  refine yr_aload_n 854 C dL_law_853 rfl rfl rfl ?_
  refine yr_iload_n 855 C dL_law_854 rfl rfl ?_
  refine yr_iconst 856 C (1) dL_law_855 rfl rfl ?_
  refine yr_iadd 857 C dL_law_856 rfl ?_
  rw [show nI (6 * n) + 1 = nI (6 * n + 1) from nI_add (6 * n) 1]
  refine yr_sld 858 C hXs hbl hbA (show 6 * n + 1 < L by omega) (by omega) dL_law_857 rfl ?_
  rw [jn_comm ap2]
  refine yr_V1v 861 C (yM_frame yZ_anti (mc_fault (yZ_ok t0 mi D dA) (xs (6 * n + 1)) hI (by omega) hm hM) (apart_sy ap2)) dL_law_858 mt_X9_fault mv_X9_fault ml_L_115 (jn_l hM.1) rfl (Nat.le_of_ble_eq_true rfl) (Nat.le_of_ble_eq_true rfl) (Nat.le_trans (show c0 + 0 + 0 ≤ 500000 by omega) rl_c) (Nat.le_trans (show s0 + 0 + 0 ≤ 7000000 by omega) rl_s) (Nat.le_of_ble_eq_true rfl) rfl (fun h hq => ?_)
  obtain ⟨hm2, hM2, ap3, rfl⟩ := hq
  rw [jn_comm ap3]
  refine yr_icmp_eq 879 864 C dL_law_861 (by decide) rfl (fun c861 => ?_) (fun c861 => ?_)
  rotate_left
  · exact absurd rfl c861
  exact yr_widen (by omega) (by omega) (K _ _ _ hX2 hM2 (apart_sy ap3))
set_option maxHeartbeats 4000000 in
set_option maxRecDepth 100000 in
theorem law_24 (C : yC (yZ t0 mi D dA) D dA p s m args meth c cL_law 4 RL A) (hXs : va_X b L xs s s.heap) (hbl : b < s.heap.size) (hbA : ¬ A b) (hL : L ≤ 3072) (hn : 6 * n + 6 ≤ L) (hc : c0 + 10 ≤ 500000) (hs : s0 + 1000 ≤ 7000000) (hT : T + 4 < 2 ^ 20) (hX : XI dA t0 S x0 T hx) (hM : yMR dA ad m0 S hm) (ap : apart hx hm) (K : ∀ (S2 : yS) (hx2 hm2 : yH), XI dA t0 S2 x0 (T + 4) hx2 → yMR dA ad m0 S2 hm2 → apart hx2 hm2 → yW p l e room_1 s m args below meth c 4 D A (c0 + 10) (s0 + 1000) Q 879 [some (.ref b), some (.ref x0), some (.ref m0), some (.int (nI (6 * n)))] [] (jn hx2 hm2)) : yW p l e room_1 s m args below meth c 4 D A c0 s0 Q 866 [some (.ref b), some (.ref x0), some (.ref m0), some (.int (nI (6 * n)))] [] (jn hx hm) := by
  refine yr_aload_n 867 C dL_law_866 rfl rfl rfl ?_
  obtain ⟨fsx, hfx⟩ := XI_recv hX
  refine yr_V0v 870 C (yM_frame yZ_anti (xz_trace (D := D) (mi := mi)  hx hT hX) ap) dL_law_867 mt_X8_trace mv_X8_trace ml_L_116 (jn_l hfx) rfl (Nat.le_of_ble_eq_true rfl) (Nat.le_of_ble_eq_true rfl) (Nat.le_trans (show c0 + 0 ≤ 500000 by omega) rl_c) (Nat.le_trans (show s0 + 0 ≤ 7000000 by omega) rl_s) (Nat.le_of_ble_eq_true rfl) rfl (fun h hq => ?_)
  obtain ⟨hx2, hX2, ap2, rfl⟩ := hq
  obtain ⟨np, ns, nd, no, nr, t, hle, hI⟩ := XI_mI hX
  refine yr_aload_n 871 C dL_law_870 rfl rfl rfl ?_
  rw [jn_comm ap2]
  refine yr_V0v 874 C (yM_frame yZ_anti (mc_trace (yZ_ok t0 mi D dA)  hI hm hM) (apart_sy ap2)) dL_law_871 mt_X9_trace mv_X9_trace ml_L_119 (jn_l hM.1) rfl (Nat.le_of_ble_eq_true rfl) (Nat.le_of_ble_eq_true rfl) (Nat.le_trans (show c0 + 0 + 0 ≤ 500000 by omega) rl_c) (Nat.le_trans (show s0 + 0 + 0 ≤ 7000000 by omega) rl_s) (Nat.le_of_ble_eq_true rfl) rfl (fun h hq => ?_)
  obtain ⟨hm2, hM2, ap3, rfl⟩ := hq
  rw [jn_comm ap3]
  refine yr_icmp_eq 879 877 C dL_law_874 (by decide) rfl (fun c874 => ?_) (fun c874 => ?_)
  rotate_left
  · exact absurd rfl c874
  exact yr_widen (by omega) (by omega) (K _ _ _ hX2 hM2 (apart_sy ap3))
end Z3
