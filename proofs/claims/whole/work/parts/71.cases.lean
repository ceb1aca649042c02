set_option maxHeartbeats 4000000 in
set_option maxRecDepth 100000 in
theorem lw_case_0 {p : Program} {l : Launch} {e : Env} {s : State} {m : MethodId} {below : List Frame} {meth : Method} {c : Code} {u : cx_U} {b L : Nat} {xs : Nat → Int32} (X : CallFix p m c bc_W_law 4 s #[Value.ref b] GW "CatchSharesLaw") (hX : va_X b L xs s s.heap) (hbl : b < s.heap.size) (hL : L ≤ 4096) {k : Nat} (hk : 8 * k + 8 ≤ L) (kk : lw_Go p l e s m below meth c u b k (k + 1) 1355) : lw_Go p l e s m below meth c u b k k 152 := by
  intro ad ad2 S sc sc2 H locs ls K B hl
  obtain ⟨h0, h01, h02, ev1⟩ := jI_R (xs (8 * k + 1))
  obtain ⟨g0, g01, g02, ev2⟩ := jI_R (xs (8 * k + 2))
  obtain ⟨v0, v01, v02, el0⟩ := jL_R ((jL h0 <<< ((jI 32).toInt64 &&& 63)) ||| (jL g0 &&& jL 4294967295))
  refine lv_aload_n X.1 X.2.1 dc_W_law_152 rfl (lv_at hl 1 rfl) ?_
  refine lv_aload_n X.1 X.2.1 dc_W_law_153 rfl (lv_at hl 0 rfl) ?_
  refine lv_iload_n X.1 X.2.1 dc_W_law_154 rfl (lv_at hl 3 rfl) ?_
  refine cx_iconst X dc_W_law_155 ?_
  refine cx_iadd X dc_W_law_156 ?_
  refine lw_sld X B hX hbl (j := 8 * k + 1) (by omega) (by omega) hL ev1 dc_W_law_157 ?_
  refine cx_i2l X h01 h02 dc_W_law_158 ?_
  refine cx_bipush X dc_W_law_159 (by decide +kernel) ?_
  refine lv_lshl X.1 X.2.1 dc_W_law_161 rfl ?_
  refine lv_aload_n X.1 X.2.1 dc_W_law_162 rfl (lv_at hl 0 rfl) ?_
  refine lv_iload_n X.1 X.2.1 dc_W_law_163 rfl (lv_at hl 3 rfl) ?_
  refine cx_iconst X dc_W_law_164 ?_
  refine cx_iadd X dc_W_law_165 ?_
  refine lw_sld X B hX hbl (j := 8 * k + 2) (by omega) (by omega) hL ev2 dc_W_law_166 ?_
  refine cx_i2l X g01 g02 dc_W_law_167 ?_
  refine cx_ldc2 (a := 4294967295) X gk_W_13 (by decide +kernel) dc_W_law_168 ?_
  refine lv_land X.1 X.2.1 dc_W_law_171 ?_
  refine lv_lor X.1 X.2.1 dc_W_law_172 ?_
  rw [el0]
  refine lw_cC (S' := (op_stock S v0)) X B kc_C_stock gm_W_15 (c_C_stock l u _ ad S sc K.1 K.2.2.2.1 v0 v01 v02) (fun w1 h => by obtain ⟨ad1, h0, h1⟩ := h; exact ⟨ad1, sc, h0, h1⟩) rfl ⟨(Nat.le_of_ble_eq_true rfl), (Nat.le_of_ble_eq_true rfl)⟩ ⟨(by show _ ≤ 600000; omega), (by show _ ≤ 7302250; omega)⟩ rfl hl.1 (Nat.le_of_ble_eq_true rfl) dc_W_law_173 rfl (fun H locs ad1 sc1 had B => ?_)
  rw [← had] at hl
  clear had
  refine lv_aload_n X.1 X.2.1 dc_W_law_176 rfl (lv_at hl 2 rfl) ?_
  refine lv_aload_n X.1 X.2.1 dc_W_law_177 rfl (lv_at hl 0 rfl) ?_
  refine lv_iload_n X.1 X.2.1 dc_W_law_178 rfl (lv_at hl 3 rfl) ?_
  refine cx_iconst X dc_W_law_179 ?_
  refine cx_iadd X dc_W_law_180 ?_
  refine lw_sld X B hX hbl (j := 8 * k + 1) (by omega) (by omega) hL ev1 dc_W_law_181 ?_
  refine cx_i2l X h01 h02 dc_W_law_182 ?_
  refine cx_bipush X dc_W_law_183 (by decide +kernel) ?_
  refine lv_lshl X.1 X.2.1 dc_W_law_185 rfl ?_
  refine lv_aload_n X.1 X.2.1 dc_W_law_186 rfl (lv_at hl 0 rfl) ?_
  refine lv_iload_n X.1 X.2.1 dc_W_law_187 rfl (lv_at hl 3 rfl) ?_
  refine cx_iconst X dc_W_law_188 ?_
  refine cx_iadd X dc_W_law_189 ?_
  refine lw_sld X B hX hbl (j := 8 * k + 2) (by omega) (by omega) hL ev2 dc_W_law_190 ?_
  refine cx_i2l X g01 g02 dc_W_law_191 ?_
  refine cx_ldc2 (a := 4294967295) X gk_W_13 (by decide +kernel) dc_W_law_192 ?_
  refine lv_land X.1 X.2.1 dc_W_law_195 ?_
  refine lv_lor X.1 X.2.1 dc_W_law_196 ?_
  rw [el0]
  refine lw_cM (S' := (op_stock S v0)) X B kc_M_stock gm_W_19 (c_M_stock l u _ ad2 S sc2 K.1  v0 v01 v02) (fun w1 h => ⟨sc2, h⟩) rfl ⟨(Nat.le_of_ble_eq_true rfl), (Nat.le_of_ble_eq_true rfl)⟩ ⟨(by show _ ≤ 600000; omega), (by show _ ≤ 7302250; omega)⟩ rfl hl.1 (Nat.le_of_ble_eq_true rfl) dc_W_law_197 rfl (fun H locs sc3 B => ?_)
  refine lv_icmp_eq (tgt := 1355) X.1 X.2.1 dc_W_law_200 (by decide) (fun _ => ?_) (fun q => absurd rfl q)
  refine W.widen (k := 35 + 3 * (k + 1)) (n := 2056 + 35 * (k + 1)) (by omega) (by omega) ?_
  exact kk _ _ _ _ _ _ _ _ (K_stock K v0) B hl
set_option maxHeartbeats 4000000 in
set_option maxRecDepth 100000 in
theorem lw_case_1 {p : Program} {l : Launch} {e : Env} {s : State} {m : MethodId} {below : List Frame} {meth : Method} {c : Code} {u : cx_U} {b L : Nat} {xs : Nat → Int32} (X : CallFix p m c bc_W_law 4 s #[Value.ref b] GW "CatchSharesLaw") (hX : va_X b L xs s s.heap) (hbl : b < s.heap.size) (hL : L ≤ 4096) {k : Nat} (hk : 8 * k + 8 ≤ L) (kk : lw_Go p l e s m below meth c u b k (k + 1) 1355) : lw_Go p l e s m below meth c u b k k 205 := by
  intro ad ad2 S sc sc2 H locs ls K B hl
  obtain ⟨v0, v01, v02, ev1⟩ := jI_R (xs (8 * k + 1))
  refine lv_aload_n X.1 X.2.1 dc_W_law_205 rfl (lv_at hl 1 rfl) ?_
  refine lv_aload_n X.1 X.2.1 dc_W_law_206 rfl (lv_at hl 0 rfl) ?_
  refine lv_iload_n X.1 X.2.1 dc_W_law_207 rfl (lv_at hl 3 rfl) ?_
  refine cx_iconst X dc_W_law_208 ?_
  refine cx_iadd X dc_W_law_209 ?_
  refine lw_sld X B hX hbl (j := 8 * k + 1) (by omega) (by omega) hL ev1 dc_W_law_210 ?_
  refine lw_cC (S' := (op_holder S v0)) X B kc_C_holder gm_W_20 (c_C_holder l u _ ad S sc K.1  v0 v01 v02) (fun w1 h => ⟨ad, sc, rfl, h⟩) rfl ⟨(Nat.le_of_ble_eq_true rfl), (Nat.le_of_ble_eq_true rfl)⟩ ⟨(by show _ ≤ 600000; omega), (by show _ ≤ 7302250; omega)⟩ rfl hl.1 (Nat.le_of_ble_eq_true rfl) dc_W_law_211 rfl (fun H locs ad1 sc1 had B => ?_)
  rw [← had] at hl
  clear had
  refine lv_aload_n X.1 X.2.1 dc_W_law_214 rfl (lv_at hl 2 rfl) ?_
  refine lv_aload_n X.1 X.2.1 dc_W_law_215 rfl (lv_at hl 0 rfl) ?_
  refine lv_iload_n X.1 X.2.1 dc_W_law_216 rfl (lv_at hl 3 rfl) ?_
  refine cx_iconst X dc_W_law_217 ?_
  refine cx_iadd X dc_W_law_218 ?_
  refine lw_sld X B hX hbl (j := 8 * k + 1) (by omega) (by omega) hL ev1 dc_W_law_219 ?_
  refine lw_cM (S' := (op_holder S v0)) X B kc_M_holder gm_W_24 (c_M_holder l u _ ad2 S sc2 K.1  v0 v01 v02) (fun w1 h => ⟨sc2, h⟩) rfl ⟨(Nat.le_of_ble_eq_true rfl), (Nat.le_of_ble_eq_true rfl)⟩ ⟨(by show _ ≤ 600000; omega), (by show _ ≤ 7302250; omega)⟩ rfl hl.1 (Nat.le_of_ble_eq_true rfl) dc_W_law_220 rfl (fun H locs sc3 B => ?_)
  refine lv_icmp_eq (tgt := 1355) X.1 X.2.1 dc_W_law_223 (by decide) (fun _ => ?_) (fun q => absurd rfl q)
  refine W.widen (k := 35 + 3 * (k + 1)) (n := 2056 + 35 * (k + 1)) (by omega) (by omega) ?_
  exact kk _ _ _ _ _ _ _ _ (K_holder K v0) B hl
set_option maxHeartbeats 4000000 in
set_option maxRecDepth 100000 in
theorem lw_case_2 {p : Program} {l : Launch} {e : Env} {s : State} {m : MethodId} {below : List Frame} {meth : Method} {c : Code} {u : cx_U} {b L : Nat} {xs : Nat → Int32} (X : CallFix p m c bc_W_law 4 s #[Value.ref b] GW "CatchSharesLaw") (hX : va_X b L xs s s.heap) (hbl : b < s.heap.size) (hL : L ≤ 4096) {k : Nat} (hk : 8 * k + 8 ≤ L) (kk : lw_Go p l e s m below meth c u b k (k + 1) 1355) : lw_Go p l e s m below meth c u b k k 228 := by
  intro ad ad2 S sc sc2 H locs ls K B hl
  obtain ⟨v0, v01, v02, ev1⟩ := jI_R (xs (8 * k + 1))
  obtain ⟨v1, v11, v12, ev2⟩ := jI_R (xs (8 * k + 2))
  obtain ⟨h2, h21, h22, ev3⟩ := jI_R (xs (8 * k + 3))
  obtain ⟨g2, g21, g22, ev4⟩ := jI_R (xs (8 * k + 4))
  obtain ⟨v2, v21, v22, el2⟩ := jL_R ((jL h2 <<< ((jI 32).toInt64 &&& 63)) ||| (jL g2 &&& jL 4294967295))
  refine lv_aload_n X.1 X.2.1 dc_W_law_228 rfl (lv_at hl 1 rfl) ?_
  refine lv_aload_n X.1 X.2.1 dc_W_law_229 rfl (lv_at hl 0 rfl) ?_
  refine lv_iload_n X.1 X.2.1 dc_W_law_230 rfl (lv_at hl 3 rfl) ?_
  refine cx_iconst X dc_W_law_231 ?_
  refine cx_iadd X dc_W_law_232 ?_
  refine lw_sld X B hX hbl (j := 8 * k + 1) (by omega) (by omega) hL ev1 dc_W_law_233 ?_
  refine lv_aload_n X.1 X.2.1 dc_W_law_234 rfl (lv_at hl 0 rfl) ?_
  refine lv_iload_n X.1 X.2.1 dc_W_law_235 rfl (lv_at hl 3 rfl) ?_
  refine cx_iconst X dc_W_law_236 ?_
  refine cx_iadd X dc_W_law_237 ?_
  refine lw_sld X B hX hbl (j := 8 * k + 2) (by omega) (by omega) hL ev2 dc_W_law_238 ?_
  refine lv_aload_n X.1 X.2.1 dc_W_law_239 rfl (lv_at hl 0 rfl) ?_
  refine lv_iload_n X.1 X.2.1 dc_W_law_240 rfl (lv_at hl 3 rfl) ?_
  refine cx_iconst X dc_W_law_241 ?_
  refine cx_iadd X dc_W_law_242 ?_
  refine lw_sld X B hX hbl (j := 8 * k + 3) (by omega) (by omega) hL ev3 dc_W_law_243 ?_
  refine cx_i2l X h21 h22 dc_W_law_244 ?_
  refine cx_bipush X dc_W_law_245 (by decide +kernel) ?_
  refine lv_lshl X.1 X.2.1 dc_W_law_247 rfl ?_
  refine lv_aload_n X.1 X.2.1 dc_W_law_248 rfl (lv_at hl 0 rfl) ?_
  refine lv_iload_n X.1 X.2.1 dc_W_law_249 rfl (lv_at hl 3 rfl) ?_
  refine cx_iconst X dc_W_law_250 ?_
  refine cx_iadd X dc_W_law_251 ?_
  refine lw_sld X B hX hbl (j := 8 * k + 4) (by omega) (by omega) hL ev4 dc_W_law_252 ?_
  refine cx_i2l X g21 g22 dc_W_law_253 ?_
  refine cx_ldc2 (a := 4294967295) X gk_W_13 (by decide +kernel) dc_W_law_254 ?_
  refine lv_land X.1 X.2.1 dc_W_law_257 ?_
  refine lv_lor X.1 X.2.1 dc_W_law_258 ?_
  rw [el2]
  refine lw_cC (S' := (op_weight S v0 v1 v2)) X B kc_C_weight gm_W_25 (c_C_weight l u _ ad S sc K.1  v0 v1 v01 v02 v11 v12 v2 v21 v22) (fun w1 h => ⟨ad, sc, rfl, h⟩) rfl ⟨(Nat.le_of_ble_eq_true rfl), (Nat.le_of_ble_eq_true rfl)⟩ ⟨(by show _ ≤ 600000; omega), (by show _ ≤ 7302250; omega)⟩ rfl hl.1 (Nat.le_of_ble_eq_true rfl) dc_W_law_259 rfl (fun H locs ad1 sc1 had B => ?_)
  rw [← had] at hl
  clear had
  refine lv_aload_n X.1 X.2.1 dc_W_law_262 rfl (lv_at hl 2 rfl) ?_
  refine lv_aload_n X.1 X.2.1 dc_W_law_263 rfl (lv_at hl 0 rfl) ?_
  refine lv_iload_n X.1 X.2.1 dc_W_law_264 rfl (lv_at hl 3 rfl) ?_
  refine cx_iconst X dc_W_law_265 ?_
  refine cx_iadd X dc_W_law_266 ?_
  refine lw_sld X B hX hbl (j := 8 * k + 1) (by omega) (by omega) hL ev1 dc_W_law_267 ?_
  refine lv_aload_n X.1 X.2.1 dc_W_law_268 rfl (lv_at hl 0 rfl) ?_
  refine lv_iload_n X.1 X.2.1 dc_W_law_269 rfl (lv_at hl 3 rfl) ?_
  refine cx_iconst X dc_W_law_270 ?_
  refine cx_iadd X dc_W_law_271 ?_
  refine lw_sld X B hX hbl (j := 8 * k + 2) (by omega) (by omega) hL ev2 dc_W_law_272 ?_
  refine lv_aload_n X.1 X.2.1 dc_W_law_273 rfl (lv_at hl 0 rfl) ?_
  refine lv_iload_n X.1 X.2.1 dc_W_law_274 rfl (lv_at hl 3 rfl) ?_
  refine cx_iconst X dc_W_law_275 ?_
  refine cx_iadd X dc_W_law_276 ?_
  refine lw_sld X B hX hbl (j := 8 * k + 3) (by omega) (by omega) hL ev3 dc_W_law_277 ?_
  refine cx_i2l X h21 h22 dc_W_law_278 ?_
  refine cx_bipush X dc_W_law_279 (by decide +kernel) ?_
  refine lv_lshl X.1 X.2.1 dc_W_law_281 rfl ?_
  refine lv_aload_n X.1 X.2.1 dc_W_law_282 rfl (lv_at hl 0 rfl) ?_
  refine lv_iload_n X.1 X.2.1 dc_W_law_283 rfl (lv_at hl 3 rfl) ?_
  refine cx_iconst X dc_W_law_284 ?_
  refine cx_iadd X dc_W_law_285 ?_
  refine lw_sld X B hX hbl (j := 8 * k + 4) (by omega) (by omega) hL ev4 dc_W_law_286 ?_
  refine cx_i2l X g21 g22 dc_W_law_287 ?_
  refine cx_ldc2 (a := 4294967295) X gk_W_13 (by decide +kernel) dc_W_law_288 ?_
  refine lv_land X.1 X.2.1 dc_W_law_291 ?_
  refine lv_lor X.1 X.2.1 dc_W_law_292 ?_
  rw [el2]
  refine lw_cM (S' := (op_weight S v0 v1 v2)) X B kc_M_weight gm_W_29 (c_M_weight l u _ ad2 S sc2 K.1  v0 v1 v01 v02 v11 v12 v2 v21 v22) (fun w1 h => ⟨sc2, h⟩) rfl ⟨(Nat.le_of_ble_eq_true rfl), (Nat.le_of_ble_eq_true rfl)⟩ ⟨(by show _ ≤ 600000; omega), (by show _ ≤ 7302250; omega)⟩ rfl hl.1 (Nat.le_of_ble_eq_true rfl) dc_W_law_293 rfl (fun H locs sc3 B => ?_)
  refine lv_icmp_eq (tgt := 1355) X.1 X.2.1 dc_W_law_296 (by decide) (fun _ => ?_) (fun q => absurd rfl q)
  refine W.widen (k := 35 + 3 * (k + 1)) (n := 2056 + 35 * (k + 1)) (by omega) (by omega) ?_
  exact kk _ _ _ _ _ _ _ _ (K_weight K v0 v1 v2) B hl
set_option maxHeartbeats 4000000 in
set_option maxRecDepth 100000 in
theorem lw_case_3 {p : Program} {l : Launch} {e : Env} {s : State} {m : MethodId} {below : List Frame} {meth : Method} {c : Code} {u : cx_U} {b L : Nat} {xs : Nat → Int32} (X : CallFix p m c bc_W_law 4 s #[Value.ref b] GW "CatchSharesLaw") (hX : va_X b L xs s s.heap) (hbl : b < s.heap.size) (hL : L ≤ 4096) {k : Nat} (hk : 8 * k + 8 ≤ L) (kk : lw_Go p l e s m below meth c u b k (k + 1) 1355) : lw_Go p l e s m below meth c u b k k 301 := by
  intro ad ad2 S sc sc2 H locs ls K B hl
  obtain ⟨v0, v01, v02, ev1⟩ := jI_R (xs (8 * k + 1))
  obtain ⟨h1, h11, h12, ev2⟩ := jI_R (xs (8 * k + 2))
  obtain ⟨g1, g11, g12, ev3⟩ := jI_R (xs (8 * k + 3))
  obtain ⟨v1, v11, v12, el1⟩ := jL_R ((jL h1 <<< ((jI 32).toInt64 &&& 63)) ||| (jL g1 &&& jL 4294967295))
  refine lv_aload_n X.1 X.2.1 dc_W_law_301 rfl (lv_at hl 1 rfl) ?_
  refine lv_aload_n X.1 X.2.1 dc_W_law_302 rfl (lv_at hl 0 rfl) ?_
  refine lv_iload_n X.1 X.2.1 dc_W_law_303 rfl (lv_at hl 3 rfl) ?_
  refine cx_iconst X dc_W_law_304 ?_
  refine cx_iadd X dc_W_law_305 ?_
  refine lw_sld X B hX hbl (j := 8 * k + 1) (by omega) (by omega) hL ev1 dc_W_law_306 ?_
  refine lv_aload_n X.1 X.2.1 dc_W_law_307 rfl (lv_at hl 0 rfl) ?_
  refine lv_iload_n X.1 X.2.1 dc_W_law_308 rfl (lv_at hl 3 rfl) ?_
  refine cx_iconst X dc_W_law_309 ?_
  refine cx_iadd X dc_W_law_310 ?_
  refine lw_sld X B hX hbl (j := 8 * k + 2) (by omega) (by omega) hL ev2 dc_W_law_311 ?_
  refine cx_i2l X h11 h12 dc_W_law_312 ?_
  refine cx_bipush X dc_W_law_313 (by decide +kernel) ?_
  refine lv_lshl X.1 X.2.1 dc_W_law_315 rfl ?_
  refine lv_aload_n X.1 X.2.1 dc_W_law_316 rfl (lv_at hl 0 rfl) ?_
  refine lv_iload_n X.1 X.2.1 dc_W_law_317 rfl (lv_at hl 3 rfl) ?_
  refine cx_iconst X dc_W_law_318 ?_
  refine cx_iadd X dc_W_law_319 ?_
  refine lw_sld X B hX hbl (j := 8 * k + 3) (by omega) (by omega) hL ev3 dc_W_law_320 ?_
  refine cx_i2l X g11 g12 dc_W_law_321 ?_
  refine cx_ldc2 (a := 4294967295) X gk_W_13 (by decide +kernel) dc_W_law_322 ?_
  refine lv_land X.1 X.2.1 dc_W_law_325 ?_
  refine lv_lor X.1 X.2.1 dc_W_law_326 ?_
  rw [el1]
  refine lw_cC (S' := (op_aside S v0 v1)) X B kc_C_aside gm_W_30 (c_C_aside l u _ ad S sc K.1  v0 v1 v01 v02 v11 v12) (fun w1 h => ⟨ad, sc, rfl, h⟩) rfl ⟨(Nat.le_of_ble_eq_true rfl), (Nat.le_of_ble_eq_true rfl)⟩ ⟨(by show _ ≤ 600000; omega), (by show _ ≤ 7302250; omega)⟩ rfl hl.1 (Nat.le_of_ble_eq_true rfl) dc_W_law_327 rfl (fun H locs ad1 sc1 had B => ?_)
  rw [← had] at hl
  clear had
  refine lv_aload_n X.1 X.2.1 dc_W_law_330 rfl (lv_at hl 2 rfl) ?_
  refine lv_aload_n X.1 X.2.1 dc_W_law_331 rfl (lv_at hl 0 rfl) ?_
  refine lv_iload_n X.1 X.2.1 dc_W_law_332 rfl (lv_at hl 3 rfl) ?_
  refine cx_iconst X dc_W_law_333 ?_
  refine cx_iadd X dc_W_law_334 ?_
  refine lw_sld X B hX hbl (j := 8 * k + 1) (by omega) (by omega) hL ev1 dc_W_law_335 ?_
  refine lv_aload_n X.1 X.2.1 dc_W_law_336 rfl (lv_at hl 0 rfl) ?_
  refine lv_iload_n X.1 X.2.1 dc_W_law_337 rfl (lv_at hl 3 rfl) ?_
  refine cx_iconst X dc_W_law_338 ?_
  refine cx_iadd X dc_W_law_339 ?_
  refine lw_sld X B hX hbl (j := 8 * k + 2) (by omega) (by omega) hL ev2 dc_W_law_340 ?_
  refine cx_i2l X h11 h12 dc_W_law_341 ?_
  refine cx_bipush X dc_W_law_342 (by decide +kernel) ?_
  refine lv_lshl X.1 X.2.1 dc_W_law_344 rfl ?_
  refine lv_aload_n X.1 X.2.1 dc_W_law_345 rfl (lv_at hl 0 rfl) ?_
  refine lv_iload_n X.1 X.2.1 dc_W_law_346 rfl (lv_at hl 3 rfl) ?_
  refine cx_iconst X dc_W_law_347 ?_
  refine cx_iadd X dc_W_law_348 ?_
  refine lw_sld X B hX hbl (j := 8 * k + 3) (by omega) (by omega) hL ev3 dc_W_law_349 ?_
  refine cx_i2l X g11 g12 dc_W_law_350 ?_
  refine cx_ldc2 (a := 4294967295) X gk_W_13 (by decide +kernel) dc_W_law_351 ?_
  refine lv_land X.1 X.2.1 dc_W_law_354 ?_
  refine lv_lor X.1 X.2.1 dc_W_law_355 ?_
  rw [el1]
  refine lw_cM (S' := (op_aside S v0 v1)) X B kc_M_aside gm_W_34 (c_M_aside l u _ ad2 S sc2 K.1  v0 v1 v01 v02 v11 v12) (fun w1 h => ⟨sc2, h⟩) rfl ⟨(Nat.le_of_ble_eq_true rfl), (Nat.le_of_ble_eq_true rfl)⟩ ⟨(by show _ ≤ 600000; omega), (by show _ ≤ 7302250; omega)⟩ rfl hl.1 (Nat.le_of_ble_eq_true rfl) dc_W_law_356 rfl (fun H locs sc3 B => ?_)
  refine lv_icmp_eq (tgt := 1355) X.1 X.2.1 dc_W_law_359 (by decide) (fun _ => ?_) (fun q => absurd rfl q)
  refine W.widen (k := 35 + 3 * (k + 1)) (n := 2056 + 35 * (k + 1)) (by omega) (by omega) ?_
  exact kk _ _ _ _ _ _ _ _ (K_aside K v0 v1) B hl
set_option maxHeartbeats 4000000 in
set_option maxRecDepth 100000 in
theorem lw_case_4 {p : Program} {l : Launch} {e : Env} {s : State} {m : MethodId} {below : List Frame} {meth : Method} {c : Code} {u : cx_U} {b L : Nat} {xs : Nat → Int32} (X : CallFix p m c bc_W_law 4 s #[Value.ref b] GW "CatchSharesLaw") (hX : va_X b L xs s s.heap) (hbl : b < s.heap.size) (hL : L ≤ 4096) {k : Nat} (hk : 8 * k + 8 ≤ L) (kk : lw_Go p l e s m below meth c u b k (k + 1) 1355) : lw_Go p l e s m below meth c u b k k 364 := by
  intro ad ad2 S sc sc2 H locs ls K B hl
  obtain ⟨v0, v01, v02, ev1⟩ := jI_R (xs (8 * k + 1))
  obtain ⟨v1, v11, v12, ev2⟩ := jI_R (xs (8 * k + 2))
  refine lv_aload_n X.1 X.2.1 dc_W_law_364 rfl (lv_at hl 1 rfl) ?_
  refine lv_aload_n X.1 X.2.1 dc_W_law_365 rfl (lv_at hl 0 rfl) ?_
  refine lv_iload_n X.1 X.2.1 dc_W_law_366 rfl (lv_at hl 3 rfl) ?_
  refine cx_iconst X dc_W_law_367 ?_
  refine cx_iadd X dc_W_law_368 ?_
  refine lw_sld X B hX hbl (j := 8 * k + 1) (by omega) (by omega) hL ev1 dc_W_law_369 ?_
  refine lv_aload_n X.1 X.2.1 dc_W_law_370 rfl (lv_at hl 0 rfl) ?_
  refine lv_iload_n X.1 X.2.1 dc_W_law_371 rfl (lv_at hl 3 rfl) ?_
  refine cx_iconst X dc_W_law_372 ?_
  refine cx_iadd X dc_W_law_373 ?_
  refine lw_sld X B hX hbl (j := 8 * k + 2) (by omega) (by omega) hL ev2 dc_W_law_374 ?_
  refine lw_cC (S' := (op_follows S v0 v1)) X B kc_C_follows gm_W_35 (c_C_follows l u _ ad S sc K.1  v0 v1 v01 v02 v11 v12) (fun w1 h => ⟨ad, sc, rfl, h⟩) rfl ⟨(Nat.le_of_ble_eq_true rfl), (Nat.le_of_ble_eq_true rfl)⟩ ⟨(by show _ ≤ 600000; omega), (by show _ ≤ 7302250; omega)⟩ rfl hl.1 (Nat.le_of_ble_eq_true rfl) dc_W_law_375 rfl (fun H locs ad1 sc1 had B => ?_)
  rw [← had] at hl
  clear had
  refine lv_aload_n X.1 X.2.1 dc_W_law_378 rfl (lv_at hl 2 rfl) ?_
  refine lv_aload_n X.1 X.2.1 dc_W_law_379 rfl (lv_at hl 0 rfl) ?_
  refine lv_iload_n X.1 X.2.1 dc_W_law_380 rfl (lv_at hl 3 rfl) ?_
  refine cx_iconst X dc_W_law_381 ?_
  refine cx_iadd X dc_W_law_382 ?_
  refine lw_sld X B hX hbl (j := 8 * k + 1) (by omega) (by omega) hL ev1 dc_W_law_383 ?_
  refine lv_aload_n X.1 X.2.1 dc_W_law_384 rfl (lv_at hl 0 rfl) ?_
  refine lv_iload_n X.1 X.2.1 dc_W_law_385 rfl (lv_at hl 3 rfl) ?_
  refine cx_iconst X dc_W_law_386 ?_
  refine cx_iadd X dc_W_law_387 ?_
  refine lw_sld X B hX hbl (j := 8 * k + 2) (by omega) (by omega) hL ev2 dc_W_law_388 ?_
  refine lw_cM (S' := (op_follows S v0 v1)) X B kc_M_follows gm_W_39 (c_M_follows l u _ ad2 S sc2 K.1  v0 v1 v01 v02 v11 v12) (fun w1 h => ⟨sc2, h⟩) rfl ⟨(Nat.le_of_ble_eq_true rfl), (Nat.le_of_ble_eq_true rfl)⟩ ⟨(by show _ ≤ 600000; omega), (by show _ ≤ 7302250; omega)⟩ rfl hl.1 (Nat.le_of_ble_eq_true rfl) dc_W_law_389 rfl (fun H locs sc3 B => ?_)
  refine lv_icmp_eq (tgt := 1355) X.1 X.2.1 dc_W_law_392 (by decide) (fun _ => ?_) (fun q => absurd rfl q)
  refine W.widen (k := 35 + 3 * (k + 1)) (n := 2056 + 35 * (k + 1)) (by omega) (by omega) ?_
  exact kk _ _ _ _ _ _ _ _ (K_follows K v0 v1) B hl
set_option maxHeartbeats 4000000 in
set_option maxRecDepth 100000 in
theorem lw_case_5 {p : Program} {l : Launch} {e : Env} {s : State} {m : MethodId} {below : List Frame} {meth : Method} {c : Code} {u : cx_U} {b L : Nat} {xs : Nat → Int32} (X : CallFix p m c bc_W_law 4 s #[Value.ref b] GW "CatchSharesLaw") (hX : va_X b L xs s s.heap) (hbl : b < s.heap.size) (hL : L ≤ 4096) {k : Nat} (hk : 8 * k + 8 ≤ L) (kk : lw_Go p l e s m below meth c u b k (k + 1) 1355) : lw_Go p l e s m below meth c u b k k 397 := by
  intro ad ad2 S sc sc2 H locs ls K B hl
  obtain ⟨v0, v01, v02, ev1⟩ := jI_R (xs (8 * k + 1))
  refine lv_aload_n X.1 X.2.1 dc_W_law_397 rfl (lv_at hl 1 rfl) ?_
  refine lv_aload_n X.1 X.2.1 dc_W_law_398 rfl (lv_at hl 0 rfl) ?_
  refine lv_iload_n X.1 X.2.1 dc_W_law_399 rfl (lv_at hl 3 rfl) ?_
  refine cx_iconst X dc_W_law_400 ?_
  refine cx_iadd X dc_W_law_401 ?_
  refine lw_sld X B hX hbl (j := 8 * k + 1) (by omega) (by omega) hL ev1 dc_W_law_402 ?_
  refine lw_cC (S' := (op_part S v0)) X B kc_C_part gm_W_40 (c_C_part l u _ ad S sc K.1 K.2.2.1 (cs_J K.1 K.2.2.2.2.1) v0 v01 v02) (fun w1 h => ⟨ad, sc, rfl, h⟩) rfl ⟨(Nat.le_of_ble_eq_true rfl), (Nat.le_of_ble_eq_true rfl)⟩ ⟨(by show _ ≤ 600000; omega), (by show _ ≤ 7302250; omega)⟩ rfl hl.1 (Nat.le_of_ble_eq_true rfl) dc_W_law_403 rfl (fun H locs ad1 sc1 had B => ?_)
  rw [← had] at hl
  clear had
  refine lv_aload_n X.1 X.2.1 dc_W_law_406 rfl (lv_at hl 2 rfl) ?_
  refine lv_aload_n X.1 X.2.1 dc_W_law_407 rfl (lv_at hl 0 rfl) ?_
  refine lv_iload_n X.1 X.2.1 dc_W_law_408 rfl (lv_at hl 3 rfl) ?_
  refine cx_iconst X dc_W_law_409 ?_
  refine cx_iadd X dc_W_law_410 ?_
  refine lw_sld X B hX hbl (j := 8 * k + 1) (by omega) (by omega) hL ev1 dc_W_law_411 ?_
  refine lw_cM (S' := (op_part S v0)) X B kc_M_part gm_W_43 (c_M_part l u _ ad2 S sc2 K.1 K.2.2.2.2.1 K.2.2.1 (cs_J K.1 K.2.2.2.2.1) v0 v01 v02) (fun w1 h => h) rfl ⟨(Nat.le_of_ble_eq_true rfl), (Nat.le_of_ble_eq_true rfl)⟩ ⟨(by show _ ≤ 600000; omega), (by show _ ≤ 7302250; omega)⟩ rfl hl.1 (Nat.le_of_ble_eq_true rfl) dc_W_law_412 rfl (fun H locs sc3 B => ?_)
  refine lv_icmp_eq (tgt := 1355) X.1 X.2.1 dc_W_law_415 (by decide) (fun _ => ?_) (fun q => absurd rfl q)
  refine W.widen (k := 35 + 3 * (k + 1)) (n := 2056 + 35 * (k + 1)) (by omega) (by omega) ?_
  exact kk _ _ _ _ _ _ _ _ (K_part K v0) B hl
set_option maxHeartbeats 4000000 in
set_option maxRecDepth 100000 in
theorem lw_case_6 {p : Program} {l : Launch} {e : Env} {s : State} {m : MethodId} {below : List Frame} {meth : Method} {c : Code} {u : cx_U} {b L : Nat} {xs : Nat → Int32} (X : CallFix p m c bc_W_law 4 s #[Value.ref b] GW "CatchSharesLaw") (hX : va_X b L xs s s.heap) (hbl : b < s.heap.size) (hL : L ≤ 4096) {k : Nat} (hk : 8 * k + 8 ≤ L) (kk : lw_Go p l e s m below meth c u b k (k + 1) 1355) : lw_Go p l e s m below meth c u b k k 420 := by
  intro ad ad2 S sc sc2 H locs ls K B hl
  obtain ⟨v0, v01, v02, ev1⟩ := jI_R (xs (8 * k + 1))
  obtain ⟨v1, v11, v12, ev2⟩ := jI_R (xs (8 * k + 2))
  refine lv_aload_n X.1 X.2.1 dc_W_law_420 rfl (lv_at hl 1 rfl) ?_
  refine lv_aload_n X.1 X.2.1 dc_W_law_421 rfl (lv_at hl 0 rfl) ?_
  refine lv_iload_n X.1 X.2.1 dc_W_law_422 rfl (lv_at hl 3 rfl) ?_
  refine cx_iconst X dc_W_law_423 ?_
  refine cx_iadd X dc_W_law_424 ?_
  refine lw_sld X B hX hbl (j := 8 * k + 1) (by omega) (by omega) hL ev1 dc_W_law_425 ?_
  refine lv_aload_n X.1 X.2.1 dc_W_law_426 rfl (lv_at hl 0 rfl) ?_
  refine lv_iload_n X.1 X.2.1 dc_W_law_427 rfl (lv_at hl 3 rfl) ?_
  refine cx_iconst X dc_W_law_428 ?_
  refine cx_iadd X dc_W_law_429 ?_
  refine lw_sld X B hX hbl (j := 8 * k + 2) (by omega) (by omega) hL ev2 dc_W_law_430 ?_
  refine cx_cVN X B kc_C_given gm_W_44 (c_C_given l u ad S sc K.1  v0 v1 v01 v02 v11 v12) lw_sC (lw_sC 0 0 _ (wC_0 u ad S sc)) rfl rfl ⟨(Nat.le_of_ble_eq_true rfl), (Nat.le_of_ble_eq_true rfl)⟩ ⟨(by show _ ≤ 600000; omega), (by show _ ≤ 7302250; omega)⟩ rfl hl.1 (Nat.le_of_ble_eq_true rfl) dc_W_law_431 rfl ?_
  refine lv_aload_n X.1 X.2.1 dc_W_law_434 rfl (lv_at hl 2 rfl) ?_
  refine lv_aload_n X.1 X.2.1 dc_W_law_435 rfl (lv_at hl 0 rfl) ?_
  refine lv_iload_n X.1 X.2.1 dc_W_law_436 rfl (lv_at hl 3 rfl) ?_
  refine cx_iconst X dc_W_law_437 ?_
  refine cx_iadd X dc_W_law_438 ?_
  refine lw_sld X B hX hbl (j := 8 * k + 1) (by omega) (by omega) hL ev1 dc_W_law_439 ?_
  refine lv_aload_n X.1 X.2.1 dc_W_law_440 rfl (lv_at hl 0 rfl) ?_
  refine lv_iload_n X.1 X.2.1 dc_W_law_441 rfl (lv_at hl 3 rfl) ?_
  refine cx_iconst X dc_W_law_442 ?_
  refine cx_iadd X dc_W_law_443 ?_
  refine lw_sld X B hX hbl (j := 8 * k + 2) (by omega) (by omega) hL ev2 dc_W_law_444 ?_
  refine cx_cVN X B kc_M_given gm_W_48 (c_M_given l u ad2 S sc2 K.1  v0 v1 v01 v02 v11 v12) lw_sM (lw_sM 20 0 _ (wM_20 u ad2 S sc2)) rfl rfl ⟨(Nat.le_of_ble_eq_true rfl), (Nat.le_of_ble_eq_true rfl)⟩ ⟨(by show _ ≤ 600000; omega), (by show _ ≤ 7302250; omega)⟩ rfl hl.1 (Nat.le_of_ble_eq_true rfl) dc_W_law_445 rfl ?_
  refine cx_lcmpR_eq (tgt := 1355) X dc_W_law_448 dc_W_law_449 (by decide) (fun _ => ?_) (fun q => absurd rfl q)
  refine W.widen (k := 35 + 3 * (k + 1)) (n := 2056 + 35 * (k + 1)) (by omega) (by omega) ?_
  exact kk _ _ _ _ _ _ _ _ K B hl
