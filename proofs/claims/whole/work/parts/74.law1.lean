variable {y : MethodName}
/-- the law, its cells counted -/
def mLw (y : MethodName) : jz_M := (RL, cL_law, 4, (some .boolean), y, 40, 430)
set_option maxRecDepth 100000 in
set_option maxHeartbeats 4000000 in
theorem law_0 (g : jz_G) (hg : jz_L g ≤ 3584) {i : Int} (hi : 0 ≤ i ∧ i + 7 ≤ jz_L g) {sx : jz_St} (hV : Inv sx) (kk : ∀ s' : jz_St, Inv s' → jz_Z g (mLw y) (jq_i (fun z _ => z = 1)) 1461 [some (jr (1000)), some (jr (0)), some (jr (416)), some (ji (i))] [] s') : jz_Z g (mLw y) (jq_i (fun z _ => z = 1)) 208 [some (jr (1000)), some (jr (0)), some (jr (416)), some (ji (i))] [] sx := by
  have hI := hV.1.2.2.1
  refine jj_aload_n dL_law_208 rfl ?_
  refine jj_aload_n dL_law_209 rfl ?_
  refine jj_iload_n dL_law_210 rfl ?_
  refine jj_iconst dL_law_211 (kk := ?_)
  refine jj_iadd dL_law_212 (by omega) ?_
  refine jj_sld dL_law_213 rfl (by omega) (by omega) ?_
  refine jj_aload_n dL_law_214 rfl ?_
  refine jj_iload_n dL_law_215 rfl ?_
  refine jj_iconst dL_law_216 (kk := ?_)
  refine jj_iadd dL_law_217 (by omega) ?_
  refine jj_sld dL_law_218 rfl (by omega) (by omega) ?_
  refine jj_aload_n dL_law_219 rfl ?_
  refine jj_iload_n dL_law_220 rfl ?_
  refine jj_iconst dL_law_221 (kk := ?_)
  refine jj_iadd dL_law_222 (by omega) ?_
  refine jj_sld dL_law_223 rfl (by omega) (by omega) ?_
  refine zz_cVi (av := [ji (jz_x g (i + 1).toNat), ji (jz_x g (i + 2).toNat), ji (jz_x g (i + 3).toNat)]) (st' := []) dL_law_224 kn_L_13 kmX7_row tt0 rfl rfl rfl (Nat.le_of_ble_eq_true rfl) (Nat.le_of_ble_eq_true rfl) rfl (c_X7_row g sx (jz_x g (i + 1).toNat) (jz_x g (i + 2).toNat) (jz_x g (i + 3).toNat) hI) (fun hr224 ho224 => ?_)
  obtain ⟨he, hN, hM⟩ := OK_law (s1 := f_X7_row sx (jz_x g (i + 1).toNat) (jz_x g (i + 2).toNat) (jz_x g (i + 3).toNat)) (f8 := fun t => f_X8_row t (jz_x g (i + 1).toNat) (jz_x g (i + 2).toNat) (jz_x g (i + 3).toNat)) (v8 := fun t => v_X8_row t (jz_x g (i + 1).toNat) (jz_x g (i + 2).toNat) (jz_x g (i + 3).toNat)) hV (fun t h => o_row h (jz_x g (i + 1).toNat) (jz_x g (i + 2).toNat) (jz_x g (i + 3).toNat)) (t_row hV.2 (jz_x g (i + 1).toNat) (jz_x g (i + 2).toNat) (jz_x g (i + 3).toNat))
  refine jj_aload_n dL_law_227 rfl ?_
  refine jj_aload_n dL_law_228 rfl ?_
  refine jj_iload_n dL_law_229 rfl ?_
  refine jj_iconst dL_law_230 (kk := ?_)
  refine jj_iadd dL_law_231 (by omega) ?_
  refine jj_sld dL_law_232 rfl (by omega) (by omega) ?_
  refine jj_aload_n dL_law_233 rfl ?_
  refine jj_iload_n dL_law_234 rfl ?_
  refine jj_iconst dL_law_235 (kk := ?_)
  refine jj_iadd dL_law_236 (by omega) ?_
  refine jj_sld dL_law_237 rfl (by omega) (by omega) ?_
  refine jj_aload_n dL_law_238 rfl ?_
  refine jj_iload_n dL_law_239 rfl ?_
  refine jj_iconst dL_law_240 (kk := ?_)
  refine jj_iadd dL_law_241 (by omega) ?_
  refine jj_sld dL_law_242 rfl (by omega) (by omega) ?_
  refine zz_cVi (av := [ji (jz_x g (i + 1).toNat), ji (jz_x g (i + 2).toNat), ji (jz_x g (i + 3).toNat)]) (st' := [ji (v_X7_row sx (jz_x g (i + 1).toNat) (jz_x g (i + 2).toNat) (jz_x g (i + 3).toNat))]) dL_law_243 kn_L_17 kmX8_row tt416 rfl rfl rfl (Nat.le_of_ble_eq_true rfl) (Nat.le_of_ble_eq_true rfl) rfl (c_X8_row g (f_X7_row sx (jz_x g (i + 1).toNat) (jz_x g (i + 2).toNat) (jz_x g (i + 3).toNat)) (jz_x g (i + 1).toNat) (jz_x g (i + 2).toNat) (jz_x g (i + 3).toNat) hM.1.1) (fun hr243 ho243 => ?_)
  refine jj_icmp_eq (tgt := 1461) dL_law_246 (by decide) (fun h246 => ?_) (fun h246 => ?_)
  · exact kk _ hN
  · exact absurd he h246
set_option maxRecDepth 100000 in
set_option maxHeartbeats 4000000 in
theorem law_1 (g : jz_G) (hg : jz_L g ≤ 3584) {i : Int} (hi : 0 ≤ i ∧ i + 7 ≤ jz_L g) {sx : jz_St} (hV : Inv sx) (kk : ∀ s' : jz_St, Inv s' → jz_Z g (mLw y) (jq_i (fun z _ => z = 1)) 1461 [some (jr (1000)), some (jr (0)), some (jr (416)), some (ji (i))] [] s') : jz_Z g (mLw y) (jq_i (fun z _ => z = 1)) 251 [some (jr (1000)), some (jr (0)), some (jr (416)), some (ji (i))] [] sx := by
  have hI := hV.1.2.2.1
  refine jj_aload_n dL_law_251 rfl ?_
  refine jj_aload_n dL_law_252 rfl ?_
  refine jj_iload_n dL_law_253 rfl ?_
  refine jj_iconst dL_law_254 (kk := ?_)
  refine jj_iadd dL_law_255 (by omega) ?_
  refine jj_sld dL_law_256 rfl (by omega) (by omega) ?_
  refine jj_aload_n dL_law_257 rfl ?_
  refine jj_iload_n dL_law_258 rfl ?_
  refine jj_iconst dL_law_259 (kk := ?_)
  refine jj_iadd dL_law_260 (by omega) ?_
  refine jj_sld dL_law_261 rfl (by omega) (by omega) ?_
  refine jj_aload_n dL_law_262 rfl ?_
  refine jj_iload_n dL_law_263 rfl ?_
  refine jj_iconst dL_law_264 (kk := ?_)
  refine jj_iadd dL_law_265 (by omega) ?_
  refine jj_sld dL_law_266 rfl (by omega) (by omega) ?_
  refine zz_cVi (av := [ji (jz_x g (i + 1).toNat), ji (jz_x g (i + 2).toNat), ji (jz_x g (i + 3).toNat)]) (st' := []) dL_law_267 kn_L_18 kmX7_set tt0 rfl rfl rfl (Nat.le_of_ble_eq_true rfl) (Nat.le_of_ble_eq_true rfl) rfl (c_X7_set g sx (jz_x g (i + 1).toNat) (jz_x g (i + 2).toNat) (jz_x g (i + 3).toNat) hI) (fun hr267 ho267 => ?_)
  obtain ⟨he, hN, hM⟩ := OK_law (s1 := f_X7_set sx (jz_x g (i + 1).toNat) (jz_x g (i + 2).toNat) (jz_x g (i + 3).toNat)) (f8 := fun t => f_X8_set t (jz_x g (i + 1).toNat) (jz_x g (i + 2).toNat) (jz_x g (i + 3).toNat)) (v8 := fun t => v_X8_set t (jz_x g (i + 1).toNat) (jz_x g (i + 2).toNat) (jz_x g (i + 3).toNat)) hV (fun t h => o_set h (jz_x g (i + 1).toNat) (jz_x g (i + 2).toNat) (jz_x g (i + 3).toNat)) (t_setr hV.2 (jz_x g (i + 1).toNat) (jz_x g (i + 2).toNat) (jz_x g (i + 3).toNat))
  refine jj_aload_n dL_law_270 rfl ?_
  refine jj_aload_n dL_law_271 rfl ?_
  refine jj_iload_n dL_law_272 rfl ?_
  refine jj_iconst dL_law_273 (kk := ?_)
  refine jj_iadd dL_law_274 (by omega) ?_
  refine jj_sld dL_law_275 rfl (by omega) (by omega) ?_
  refine jj_aload_n dL_law_276 rfl ?_
  refine jj_iload_n dL_law_277 rfl ?_
  refine jj_iconst dL_law_278 (kk := ?_)
  refine jj_iadd dL_law_279 (by omega) ?_
  refine jj_sld dL_law_280 rfl (by omega) (by omega) ?_
  refine jj_aload_n dL_law_281 rfl ?_
  refine jj_iload_n dL_law_282 rfl ?_
  refine jj_iconst dL_law_283 (kk := ?_)
  refine jj_iadd dL_law_284 (by omega) ?_
  refine jj_sld dL_law_285 rfl (by omega) (by omega) ?_
  refine zz_cVi (av := [ji (jz_x g (i + 1).toNat), ji (jz_x g (i + 2).toNat), ji (jz_x g (i + 3).toNat)]) (st' := [ji (v_X7_set sx (jz_x g (i + 1).toNat) (jz_x g (i + 2).toNat) (jz_x g (i + 3).toNat))]) dL_law_286 kn_L_21 kmX8_set tt416 rfl rfl rfl (Nat.le_of_ble_eq_true rfl) (Nat.le_of_ble_eq_true rfl) rfl (c_X8_set g (f_X7_set sx (jz_x g (i + 1).toNat) (jz_x g (i + 2).toNat) (jz_x g (i + 3).toNat)) (jz_x g (i + 1).toNat) (jz_x g (i + 2).toNat) (jz_x g (i + 3).toNat) hM.1.1) (fun hr286 ho286 => ?_)
  refine jj_icmp_eq (tgt := 1461) dL_law_289 (by decide) (fun h289 => ?_) (fun h289 => ?_)
  · exact kk _ hN
  · exact absurd he h289
set_option maxRecDepth 100000 in
set_option maxHeartbeats 4000000 in
theorem law_2 (g : jz_G) (hg : jz_L g ≤ 3584) {i : Int} (hi : 0 ≤ i ∧ i + 7 ≤ jz_L g) {sx : jz_St} (hV : Inv sx) (kk : ∀ s' : jz_St, Inv s' → jz_Z g (mLw y) (jq_i (fun z _ => z = 1)) 1461 [some (jr (1000)), some (jr (0)), some (jr (416)), some (ji (i))] [] s') : jz_Z g (mLw y) (jq_i (fun z _ => z = 1)) 294 [some (jr (1000)), some (jr (0)), some (jr (416)), some (ji (i))] [] sx := by
  have hI := hV.1.2.2.1
  refine jj_aload_n dL_law_294 rfl ?_
  refine jj_aload_n dL_law_295 rfl ?_
  refine jj_iload_n dL_law_296 rfl ?_
  refine jj_iconst dL_law_297 (kk := ?_)
  refine jj_iadd dL_law_298 (by omega) ?_
  refine jj_sld dL_law_299 rfl (by omega) (by omega) ?_
  refine jj_aload_n dL_law_300 rfl ?_
  refine jj_iload_n dL_law_301 rfl ?_
  refine jj_iconst dL_law_302 (kk := ?_)
  refine jj_iadd dL_law_303 (by omega) ?_
  refine jj_sld dL_law_304 rfl (by omega) (by omega) ?_
  refine jj_aload_n dL_law_305 rfl ?_
  refine jj_iload_n dL_law_306 rfl ?_
  refine jj_iconst dL_law_307 (kk := ?_)
  refine jj_iadd dL_law_308 (by omega) ?_
  refine jj_sld dL_law_309 rfl (by omega) (by omega) ?_
  refine jj_aload_n dL_law_310 rfl ?_
  refine jj_iload_n dL_law_311 rfl ?_
  refine jj_iconst dL_law_312 (kk := ?_)
  refine jj_iadd dL_law_313 (by omega) ?_
  refine jj_sld dL_law_314 rfl (by omega) (by omega) ?_
  refine jj_aload_n dL_law_315 rfl ?_
  refine jj_iload_n dL_law_316 rfl ?_
  refine jj_iconst dL_law_317 (kk := ?_)
  refine jj_iadd dL_law_318 (by omega) ?_
  refine jj_sld dL_law_319 rfl (by omega) (by omega) ?_
  refine zz_cVi (av := [ji (jz_x g (i + 1).toNat), ji (jz_x g (i + 2).toNat), ji (jz_x g (i + 3).toNat), ji (jz_x g (i + 4).toNat), ji (jz_x g (i + 5).toNat)]) (st' := []) dL_law_320 kn_L_22 kmX7_copy tt0 rfl rfl rfl (Nat.le_of_ble_eq_true rfl) (Nat.le_of_ble_eq_true rfl) rfl (c_X7_copy g sx (jz_x g (i + 1).toNat) (jz_x g (i + 2).toNat) (jz_x g (i + 3).toNat) (jz_x g (i + 4).toNat) (jz_x g (i + 5).toNat) hI) (fun hr320 ho320 => ?_)
  obtain ⟨he, hN, hM⟩ := OK_law (s1 := f_X7_copy sx (jz_x g (i + 1).toNat) (jz_x g (i + 2).toNat) (jz_x g (i + 3).toNat) (jz_x g (i + 4).toNat) (jz_x g (i + 5).toNat)) (f8 := fun t => f_X8_copy t (jz_x g (i + 1).toNat) (jz_x g (i + 2).toNat) (jz_x g (i + 3).toNat) (jz_x g (i + 4).toNat) (jz_x g (i + 5).toNat)) (v8 := fun t => v_X8_copy t (jz_x g (i + 1).toNat) (jz_x g (i + 2).toNat) (jz_x g (i + 3).toNat) (jz_x g (i + 4).toNat) (jz_x g (i + 5).toNat)) hV (fun t h => o_copy h (jz_x g (i + 1).toNat) (jz_x g (i + 2).toNat) (jz_x g (i + 3).toNat) (jz_x g (i + 4).toNat) (jz_x g (i + 5).toNat)) (t_copy hV.2 (jz_x g (i + 1).toNat) (jz_x g (i + 2).toNat) (jz_x g (i + 3).toNat) (jz_x g (i + 4).toNat) (jz_x g (i + 5).toNat))
  refine jj_aload_n dL_law_323 rfl ?_
  refine jj_aload_n dL_law_324 rfl ?_
  refine jj_iload_n dL_law_325 rfl ?_
  refine jj_iconst dL_law_326 (kk := ?_)
  refine jj_iadd dL_law_327 (by omega) ?_
  refine jj_sld dL_law_328 rfl (by omega) (by omega) ?_
  refine jj_aload_n dL_law_329 rfl ?_
  refine jj_iload_n dL_law_330 rfl ?_
  refine jj_iconst dL_law_331 (kk := ?_)
  refine jj_iadd dL_law_332 (by omega) ?_
  refine jj_sld dL_law_333 rfl (by omega) (by omega) ?_
  refine jj_aload_n dL_law_334 rfl ?_
  refine jj_iload_n dL_law_335 rfl ?_
  refine jj_iconst dL_law_336 (kk := ?_)
  refine jj_iadd dL_law_337 (by omega) ?_
  refine jj_sld dL_law_338 rfl (by omega) (by omega) ?_
  refine jj_aload_n dL_law_339 rfl ?_
  refine jj_iload_n dL_law_340 rfl ?_
  refine jj_iconst dL_law_341 (kk := ?_)
  refine jj_iadd dL_law_342 (by omega) ?_
  refine jj_sld dL_law_343 rfl (by omega) (by omega) ?_
  refine jj_aload_n dL_law_344 rfl ?_
  refine jj_iload_n dL_law_345 rfl ?_
  refine jj_iconst dL_law_346 (kk := ?_)
  refine jj_iadd dL_law_347 (by omega) ?_
  refine jj_sld dL_law_348 rfl (by omega) (by omega) ?_
  refine zz_cVi (av := [ji (jz_x g (i + 1).toNat), ji (jz_x g (i + 2).toNat), ji (jz_x g (i + 3).toNat), ji (jz_x g (i + 4).toNat), ji (jz_x g (i + 5).toNat)]) (st' := [ji (v_X7_copy sx (jz_x g (i + 1).toNat) (jz_x g (i + 2).toNat) (jz_x g (i + 3).toNat) (jz_x g (i + 4).toNat) (jz_x g (i + 5).toNat))]) dL_law_349 kn_L_26 kmX8_copy tt416 rfl rfl rfl (Nat.le_of_ble_eq_true rfl) (Nat.le_of_ble_eq_true rfl) rfl (c_X8_copy g (f_X7_copy sx (jz_x g (i + 1).toNat) (jz_x g (i + 2).toNat) (jz_x g (i + 3).toNat) (jz_x g (i + 4).toNat) (jz_x g (i + 5).toNat)) (jz_x g (i + 1).toNat) (jz_x g (i + 2).toNat) (jz_x g (i + 3).toNat) (jz_x g (i + 4).toNat) (jz_x g (i + 5).toNat) hM.1.1) (fun hr349 ho349 => ?_)
  refine jj_icmp_eq (tgt := 1461) dL_law_352 (by decide) (fun h352 => ?_) (fun h352 => ?_)
  · exact kk _ hN
  · exact absurd he h352
set_option maxRecDepth 100000 in
set_option maxHeartbeats 4000000 in
theorem law_3 (g : jz_G) (hg : jz_L g ≤ 3584) {i : Int} (hi : 0 ≤ i ∧ i + 7 ≤ jz_L g) {sx : jz_St} (hV : Inv sx) (kk : ∀ s' : jz_St, Inv s' → jz_Z g (mLw y) (jq_i (fun z _ => z = 1)) 1461 [some (jr (1000)), some (jr (0)), some (jr (416)), some (ji (i))] [] s') : jz_Z g (mLw y) (jq_i (fun z _ => z = 1)) 357 [some (jr (1000)), some (jr (0)), some (jr (416)), some (ji (i))] [] sx := by
  have hI := hV.1.2.2.1
  refine jj_aload_n dL_law_357 rfl ?_
  refine jj_aload_n dL_law_358 rfl ?_
  refine jj_iload_n dL_law_359 rfl ?_
  refine jj_iconst dL_law_360 (kk := ?_)
  refine jj_iadd dL_law_361 (by omega) ?_
  refine jj_sld dL_law_362 rfl (by omega) (by omega) ?_
  refine zz_cVi (av := [ji (jz_x g (i + 1).toNat)]) (st' := []) dL_law_363 kn_L_27 kmX7_drop tt0 rfl rfl rfl (Nat.le_of_ble_eq_true rfl) (Nat.le_of_ble_eq_true rfl) rfl (c_X7_drop g sx (jz_x g (i + 1).toNat) hI) (fun hr363 ho363 => ?_)
  obtain ⟨he, hN, hM⟩ := OK_law (s1 := f_X7_drop sx (jz_x g (i + 1).toNat)) (f8 := fun t => f_X8_drop t (jz_x g (i + 1).toNat)) (v8 := fun t => v_X8_drop t (jz_x g (i + 1).toNat)) hV (fun t h => o_drop h (jz_x g (i + 1).toNat)) (t_drop hV.2 (jz_x g (i + 1).toNat))
  refine jj_aload_n dL_law_366 rfl ?_
  refine jj_aload_n dL_law_367 rfl ?_
  refine jj_iload_n dL_law_368 rfl ?_
  refine jj_iconst dL_law_369 (kk := ?_)
  refine jj_iadd dL_law_370 (by omega) ?_
  refine jj_sld dL_law_371 rfl (by omega) (by omega) ?_
  refine zz_cVi (av := [ji (jz_x g (i + 1).toNat)]) (st' := [ji (v_X7_drop sx (jz_x g (i + 1).toNat))]) dL_law_372 kn_L_31 kmX8_drop tt416 rfl rfl rfl (Nat.le_of_ble_eq_true rfl) (Nat.le_of_ble_eq_true rfl) rfl (c_X8_drop g (f_X7_drop sx (jz_x g (i + 1).toNat)) (jz_x g (i + 1).toNat) hM.1.1) (fun hr372 ho372 => ?_)
  refine jj_icmp_eq (tgt := 1461) dL_law_375 (by decide) (fun h375 => ?_) (fun h375 => ?_)
  · exact kk _ hN
  · exact absurd he h375
set_option maxRecDepth 100000 in
set_option maxHeartbeats 4000000 in
theorem law_4 (g : jz_G) (hg : jz_L g ≤ 3584) {i : Int} (hi : 0 ≤ i ∧ i + 7 ≤ jz_L g) {sx : jz_St} (hV : Inv sx) (kk : ∀ s' : jz_St, Inv s' → jz_Z g (mLw y) (jq_i (fun z _ => z = 1)) 1461 [some (jr (1000)), some (jr (0)), some (jr (416)), some (ji (i))] [] s') : jz_Z g (mLw y) (jq_i (fun z _ => z = 1)) 380 [some (jr (1000)), some (jr (0)), some (jr (416)), some (ji (i))] [] sx := by
  have hI := hV.1.2.2.1
  refine jj_aload_n dL_law_380 rfl ?_
  refine jj_aload_n dL_law_381 rfl ?_
  refine jj_iload_n dL_law_382 rfl ?_
  refine jj_iconst dL_law_383 (kk := ?_)
  refine jj_iadd dL_law_384 (by omega) ?_
  refine jj_sld dL_law_385 rfl (by omega) (by omega) ?_
  refine zz_cVi (av := [ji (jz_x g (i + 1).toNat)]) (st' := []) dL_law_386 kn_L_32 kmX7_feed tt0 rfl rfl rfl (Nat.le_of_ble_eq_true rfl) (Nat.le_of_ble_eq_true rfl) rfl (c_X7_feed g sx (jz_x g (i + 1).toNat) hI) (fun hr386 ho386 => ?_)
  obtain ⟨he, hN, hM⟩ := OK_law (s1 := f_X7_feed sx (jz_x g (i + 1).toNat)) (f8 := fun t => f_X8_feed t (jz_x g (i + 1).toNat)) (v8 := fun t => v_X8_feed t (jz_x g (i + 1).toNat)) hV (fun t h => o_feed h (jz_x g (i + 1).toNat)) (t_feed hV.2 (jz_x g (i + 1).toNat))
  refine jj_aload_n dL_law_389 rfl ?_
  refine jj_aload_n dL_law_390 rfl ?_
  refine jj_iload_n dL_law_391 rfl ?_
  refine jj_iconst dL_law_392 (kk := ?_)
  refine jj_iadd dL_law_393 (by omega) ?_
  refine jj_sld dL_law_394 rfl (by omega) (by omega) ?_
  refine zz_cVi (av := [ji (jz_x g (i + 1).toNat)]) (st' := [ji (v_X7_feed sx (jz_x g (i + 1).toNat))]) dL_law_395 kn_L_35 kmX8_feed tt416 rfl rfl rfl (Nat.le_of_ble_eq_true rfl) (Nat.le_of_ble_eq_true rfl) rfl (c_X8_feed g (f_X7_feed sx (jz_x g (i + 1).toNat)) (jz_x g (i + 1).toNat) hM.1.1 hM.2.2.1.1) (fun hr395 ho395 => ?_)
  refine jj_icmp_eq (tgt := 1461) dL_law_398 (by decide) (fun h398 => ?_) (fun h398 => ?_)
  · exact kk _ hN
  · exact absurd he h398
set_option maxRecDepth 100000 in
set_option maxHeartbeats 4000000 in
theorem law_5 (g : jz_G) (hg : jz_L g ≤ 3584) {i : Int} (hi : 0 ≤ i ∧ i + 7 ≤ jz_L g) {sx : jz_St} (hV : Inv sx) (kk : ∀ s' : jz_St, Inv s' → jz_Z g (mLw y) (jq_i (fun z _ => z = 1)) 1461 [some (jr (1000)), some (jr (0)), some (jr (416)), some (ji (i))] [] s') : jz_Z g (mLw y) (jq_i (fun z _ => z = 1)) 403 [some (jr (1000)), some (jr (0)), some (jr (416)), some (ji (i))] [] sx := by
  have hI := hV.1.2.2.1
  refine jj_aload_n dL_law_403 rfl ?_
  refine zz_cVi (av := []) (st' := []) dL_law_404 kn_L_36 kmX7_square tt0 rfl rfl rfl (Nat.le_of_ble_eq_true rfl) (Nat.le_of_ble_eq_true rfl) rfl (c_X7_square g sx hI.2.2.2.2.1 (sq_pl1 hV.1 hV.2)) (fun hr404 ho404 => ?_)
  obtain ⟨he, hN, hM⟩ := OK_law (s1 := f_X7_square sx) (f8 := f_X8_square) (v8 := v_X8_square) hV (fun t h => ⟨(o_square h hV.2).1, (o_square h hV.2).2.1⟩) (o_square hV.1 hV.2).2.2
  refine jj_aload_n dL_law_407 rfl ?_
  refine zz_cVi (av := []) (st' := [ji (v_X7_square sx)]) dL_law_408 kn_L_40 kmX8_square tt416 rfl rfl rfl (Nat.le_of_ble_eq_true rfl) (Nat.le_of_ble_eq_true rfl) rfl (c_X8_squareW g (f_X7_square sx) hM.1.1 hM.2.2.1 (sq_plW (OK_mid hV (o_square hV.1 hV.2).2.1) hV.2)) (fun hr408 ho408 => ?_)
  refine jj_icmp_eq (tgt := 1461) dL_law_411 (by decide) (fun h411 => ?_) (fun h411 => ?_)
  · exact kk _ hN
  · exact absurd he h411
set_option maxRecDepth 100000 in
set_option maxHeartbeats 4000000 in
theorem law_6 (g : jz_G) (hg : jz_L g ≤ 3584) {i : Int} (hi : 0 ≤ i ∧ i + 7 ≤ jz_L g) {sx : jz_St} (hV : Inv sx) (kk : ∀ s' : jz_St, Inv s' → jz_Z g (mLw y) (jq_i (fun z _ => z = 1)) 1461 [some (jr (1000)), some (jr (0)), some (jr (416)), some (ji (i))] [] s') : jz_Z g (mLw y) (jq_i (fun z _ => z = 1)) 416 [some (jr (1000)), some (jr (0)), some (jr (416)), some (ji (i))] [] sx := by
  have hI := hV.1.2.2.1
  refine jj_aload_n dL_law_416 rfl ?_
  refine zz_cVi (av := []) (st' := []) dL_law_417 kn_L_41 kmX7_fault tt0 rfl rfl rfl (Nat.le_of_ble_eq_true rfl) (Nat.le_of_ble_eq_true rfl) rfl (c_X7_fault g sx ) (fun hr417 ho417 => ?_)
  have he := o_fault hV.1 
  have hN := hV
  have hM := hV.1.2.1
  refine jj_aload_n dL_law_420 rfl ?_
  refine zz_cVi (av := []) (st' := [ji (v_X7_fault sx)]) dL_law_421 kn_L_44 kmX8_fault tt416 rfl rfl rfl (Nat.le_of_ble_eq_true rfl) (Nat.le_of_ble_eq_true rfl) rfl (c_X8_fault g sx  hM.1.1) (fun hr421 ho421 => ?_)
  refine jj_icmp_eq (tgt := 1461) dL_law_424 (by decide) (fun h424 => ?_) (fun h424 => ?_)
  · exact kk _ hN
  · exact absurd he h424
set_option maxRecDepth 100000 in
set_option maxHeartbeats 4000000 in
theorem law_7 (g : jz_G) (hg : jz_L g ≤ 3584) {i : Int} (hi : 0 ≤ i ∧ i + 7 ≤ jz_L g) {sx : jz_St} (hV : Inv sx) (kk : ∀ s' : jz_St, Inv s' → jz_Z g (mLw y) (jq_i (fun z _ => z = 1)) 1461 [some (jr (1000)), some (jr (0)), some (jr (416)), some (ji (i))] [] s') : jz_Z g (mLw y) (jq_i (fun z _ => z = 1)) 429 [some (jr (1000)), some (jr (0)), some (jr (416)), some (ji (i))] [] sx := by
  have hI := hV.1.2.2.1
  refine jj_aload_n dL_law_429 rfl ?_
  refine zz_cVi (av := []) (st' := []) dL_law_430 kn_L_45 kmX7_undo tt0 rfl rfl rfl (Nat.le_of_ble_eq_true rfl) (Nat.le_of_ble_eq_true rfl) rfl (c_X7_undo g sx  hI) (fun hr430 ho430 => ?_)
  obtain ⟨he, hN, hM⟩ := OK_law (s1 := f_X7_undo sx ) (f8 := fun t => f_X8_undo t ) (v8 := fun t => v_X8_undo t ) hV (fun t h => o_undo h ) (t_undo hV.2)
  refine jj_aload_n dL_law_433 rfl ?_
  refine zz_cVi (av := []) (st' := [ji (v_X7_undo sx)]) dL_law_434 kn_L_48 kmX8_undo tt416 rfl rfl rfl (Nat.le_of_ble_eq_true rfl) (Nat.le_of_ble_eq_true rfl) rfl (c_X8_undo g (f_X7_undo sx)  hM.1) (fun hr434 ho434 => ?_)
  refine jj_icmp_eq (tgt := 1461) dL_law_437 (by decide) (fun h437 => ?_) (fun h437 => ?_)
  · exact kk _ hN
  · exact absurd he h437
set_option maxRecDepth 100000 in
set_option maxHeartbeats 4000000 in
theorem law_8 (g : jz_G) (hg : jz_L g ≤ 3584) {i : Int} (hi : 0 ≤ i ∧ i + 7 ≤ jz_L g) {sx : jz_St} (hV : Inv sx) (kk : ∀ s' : jz_St, Inv s' → jz_Z g (mLw y) (jq_i (fun z _ => z = 1)) 1461 [some (jr (1000)), some (jr (0)), some (jr (416)), some (ji (i))] [] s') : jz_Z g (mLw y) (jq_i (fun z _ => z = 1)) 442 [some (jr (1000)), some (jr (0)), some (jr (416)), some (ji (i))] [] sx := by
  have hI := hV.1.2.2.1
  refine jj_aload_n dL_law_442 rfl ?_
  refine jj_aload_n dL_law_443 rfl ?_
  refine jj_iload_n dL_law_444 rfl ?_
  refine jj_iconst dL_law_445 (kk := ?_)
  refine jj_iadd dL_law_446 (by omega) ?_
  refine jj_sld dL_law_447 rfl (by omega) (by omega) ?_
  refine zz_cVi (av := [ji (jz_x g (i + 1).toNat)]) (st' := []) dL_law_448 kn_L_49 kmX7_hours tt0 rfl rfl rfl (Nat.le_of_ble_eq_true rfl) (Nat.le_of_ble_eq_true rfl) rfl (c_X7_hours g sx (jz_x g (i + 1).toNat) hI) (fun hr448 ho448 => ?_)
  obtain ⟨he, hN, hM⟩ := OK_law (s1 := f_X7_hours sx (jz_x g (i + 1).toNat)) (f8 := fun t => f_X8_hours t (jz_x g (i + 1).toNat)) (v8 := fun t => v_X8_hours t (jz_x g (i + 1).toNat)) hV (fun t h => o_hours h (jz_x g (i + 1).toNat)) (t_hours hV (jz_x g (i + 1).toNat))
  refine jj_aload_n dL_law_451 rfl ?_
  refine jj_aload_n dL_law_452 rfl ?_
  refine jj_iload_n dL_law_453 rfl ?_
  refine jj_iconst dL_law_454 (kk := ?_)
  refine jj_iadd dL_law_455 (by omega) ?_
  refine jj_sld dL_law_456 rfl (by omega) (by omega) ?_
  refine zz_cVi (av := [ji (jz_x g (i + 1).toNat)]) (st' := [ji (v_X7_hours sx (jz_x g (i + 1).toNat))]) dL_law_457 kn_L_52 kmX8_hours tt416 rfl rfl rfl (Nat.le_of_ble_eq_true rfl) (Nat.le_of_ble_eq_true rfl) rfl (c_X8_hours g (f_X7_hours sx (jz_x g (i + 1).toNat)) (jz_x g (i + 1).toNat) hM.1) (fun hr457 ho457 => ?_)
  refine jj_icmp_eq (tgt := 1461) dL_law_460 (by decide) (fun h460 => ?_) (fun h460 => ?_)
  · exact kk _ hN
  · exact absurd he h460
set_option maxRecDepth 100000 in
set_option maxHeartbeats 4000000 in
theorem law_9 (g : jz_G) (hg : jz_L g ≤ 3584) {i : Int} (hi : 0 ≤ i ∧ i + 7 ≤ jz_L g) {sx : jz_St} (hV : Inv sx) (kk : ∀ s' : jz_St, Inv s' → jz_Z g (mLw y) (jq_i (fun z _ => z = 1)) 1461 [some (jr (1000)), some (jr (0)), some (jr (416)), some (ji (i))] [] s') : jz_Z g (mLw y) (jq_i (fun z _ => z = 1)) 465 [some (jr (1000)), some (jr (0)), some (jr (416)), some (ji (i))] [] sx := by
  have hI := hV.1.2.2.1
  refine jj_aload_n dL_law_465 rfl ?_
  refine jj_aload_n dL_law_466 rfl ?_
  refine jj_iload_n dL_law_467 rfl ?_
  refine jj_iconst dL_law_468 (kk := ?_)
  refine jj_iadd dL_law_469 (by omega) ?_
  refine jj_sld dL_law_470 rfl (by omega) (by omega) ?_
  refine jj_aload_n dL_law_471 rfl ?_
  refine jj_iload_n dL_law_472 rfl ?_
  refine jj_iconst dL_law_473 (kk := ?_)
  refine jj_iadd dL_law_474 (by omega) ?_
  refine jj_sld dL_law_475 rfl (by omega) (by omega) ?_
  refine zz_cVi (av := [ji (jz_x g (i + 1).toNat), ji (jz_x g (i + 2).toNat)]) (st' := []) dL_law_476 kn_L_53 kmX7_hang tt0 rfl rfl rfl (Nat.le_of_ble_eq_true rfl) (Nat.le_of_ble_eq_true rfl) rfl (c_X7_hang g sx (jz_x g (i + 1).toNat) (jz_x g (i + 2).toNat) hI) (fun hr476 ho476 => ?_)
  obtain ⟨he, hN, hM⟩ := OK_law (s1 := f_X7_hang sx (jz_x g (i + 1).toNat) (jz_x g (i + 2).toNat)) (f8 := fun t => f_X8_hang t (jz_x g (i + 1).toNat) (jz_x g (i + 2).toNat)) (v8 := fun t => v_X8_hang t (jz_x g (i + 1).toNat) (jz_x g (i + 2).toNat)) hV (fun t h => o_hang h (jz_x g (i + 1).toNat) (jz_x g (i + 2).toNat)) (t_hang hV.1 hV.2 (jz_x g (i + 1).toNat) (jz_x g (i + 2).toNat))
  refine jj_aload_n dL_law_479 rfl ?_
  refine jj_aload_n dL_law_480 rfl ?_
  refine jj_iload_n dL_law_481 rfl ?_
  refine jj_iconst dL_law_482 (kk := ?_)
  refine jj_iadd dL_law_483 (by omega) ?_
  refine jj_sld dL_law_484 rfl (by omega) (by omega) ?_
  refine jj_aload_n dL_law_485 rfl ?_
  refine jj_iload_n dL_law_486 rfl ?_
  refine jj_iconst dL_law_487 (kk := ?_)
  refine jj_iadd dL_law_488 (by omega) ?_
  refine jj_sld dL_law_489 rfl (by omega) (by omega) ?_
  refine zz_cVi (av := [ji (jz_x g (i + 1).toNat), ji (jz_x g (i + 2).toNat)]) (st' := [ji (v_X7_hang sx (jz_x g (i + 1).toNat) (jz_x g (i + 2).toNat))]) dL_law_490 kn_L_57 kmX8_hang tt416 rfl rfl rfl (Nat.le_of_ble_eq_true rfl) (Nat.le_of_ble_eq_true rfl) rfl (c_X8_hang g (f_X7_hang sx (jz_x g (i + 1).toNat) (jz_x g (i + 2).toNat)) (jz_x g (i + 1).toNat) (jz_x g (i + 2).toNat) hM.1) (fun hr490 ho490 => ?_)
  refine jj_icmp_eq (tgt := 1461) dL_law_493 (by decide) (fun h493 => ?_) (fun h493 => ?_)
  · exact kk _ hN
  · exact absurd he h493
