-- the cases of the law

set_option maxHeartbeats 400000 in
set_option maxRecDepth 100000 in
theorem lc_0 {E : awE} {S : awS} {M : aM} {j kc ks : Nat} {Q : Option Value → awS → Nat → Nat → Prop} (I : lwS S M) (hj : 7 * j + 7 ≤ awE_n E) (hnb : awE_n E < 2 ^ 31) (k : lwK E M j kc ks Q) : awV true E m_law 180 (lwL j) [] S kc ks Q := by
  refine av_aload_n (i := 1) dL_law_180 rfl rfl rfl ?_
  refine av_aload_n (i := 0) dL_law_181 rfl rfl rfl ?_
  refine av_iload dL_law_182 rfl ?_
  refine av_iconst (v := 1) dL_law_184 (by decide) ?_
  refine av_iadd1 dL_law_185 ?_
  refine av_sldN dL_law_186 (by omega) hnb ?_
  refine av_invV (c := 12) (n := 1) (As := [_]) dL_law_187 cb_X11_source cv_L_21.1 cv_L_21.2.1 cv_L_21.2.2 rfl (by decide) rfl ⟨Nat.le_of_ble_eq_true rfl, Nat.le_of_ble_eq_true rfl⟩ (Nat.le_of_ble_eq_true rfl) rfl (I.call (fun Q h => c_source I.2.2.1 h) (fun S1 mc ms n1 b1 b2 => ?_))
  refine av_aload_n (i := 2) dL_law_190 rfl rfl rfl ?_
  refine av_aload_n (i := 0) dL_law_191 rfl rfl rfl ?_
  refine av_iload dL_law_192 rfl ?_
  refine av_iconst (v := 1) dL_law_194 (by decide) ?_
  refine av_iadd1 dL_law_195 ?_
  refine av_sldN dL_law_196 (by omega) hnb ?_
  refine av_sE (par_e n1.1) ?_
  refine av_invV (c := 13) (n := 1) (As := [_]) dL_law_197 cb_X12_source cv_L_25.1 cv_L_25.2.1 cv_L_25.2.2 rfl (by decide) rfl ⟨Nat.le_of_ble_eq_true rfl, Nat.le_of_ble_eq_true rfl⟩ (Nat.le_of_ble_eq_true rfl) rfl (t_source n1.2.1 (I.2.2.1.1.mI.S (k := 2) (b := 16) (by decide)) _ ?_)
  refine av_icmp_eq (tgt := 1485) dL_law_200 (by decide) (fun c_200 => ?_) (fun c_200 => ?_)
  · exact k _ _ _ _ (lwS.put n1.2.1 n1.2.2.1 n1.2.2.2.1) n1.2.2.2.2 (by omega) (by omega)
  · exact absurd rfl c_200
set_option maxHeartbeats 400000 in
set_option maxRecDepth 100000 in
theorem lc_1 {E : awE} {S : awS} {M : aM} {j kc ks : Nat} {Q : Option Value → awS → Nat → Nat → Prop} (I : lwS S M) (hj : 7 * j + 7 ≤ awE_n E) (hnb : awE_n E < 2 ^ 31) (k : lwK E M j kc ks Q) : awV true E m_law 205 (lwL j) [] S kc ks Q := by
  refine av_aload_n (i := 1) dL_law_205 rfl rfl rfl ?_
  refine av_aload_n (i := 0) dL_law_206 rfl rfl rfl ?_
  refine av_iload dL_law_207 rfl ?_
  refine av_iconst (v := 1) dL_law_209 (by decide) ?_
  refine av_iadd1 dL_law_210 ?_
  refine av_sldN dL_law_211 (by omega) hnb ?_
  refine av_aload_n (i := 0) dL_law_212 rfl rfl rfl ?_
  refine av_iload dL_law_213 rfl ?_
  refine av_iconst (v := nI 2) dL_law_215 (by decide) ?_
  refine av_iaddN dL_law_216 ?_
  refine av_sldN dL_law_217 (by omega) hnb ?_
  refine av_i2l dL_law_218 ?_
  refine av_bipush (v := 32) dL_law_219 (by decide) ?_
  refine av_lshl dL_law_221 rfl ?_
  refine av_aload_n (i := 0) dL_law_222 rfl rfl rfl ?_
  refine av_iload dL_law_223 rfl ?_
  refine av_iconst (v := nI 3) dL_law_225 (by decide) ?_
  refine av_iaddN dL_law_226 ?_
  refine av_sldN dL_law_227 (by omega) hnb ?_
  refine av_i2l dL_law_228 ?_
  refine av_ldc2 dL_law_229 kc_L_26 ?_
  refine av_land dL_law_232 ?_
  refine av_lor dL_law_233 ?_
  refine av_aload_n (i := 0) dL_law_234 rfl rfl rfl ?_
  refine av_iload dL_law_235 rfl ?_
  refine av_iconst (v := nI 4) dL_law_237 (by decide) ?_
  refine av_iaddN dL_law_238 ?_
  refine av_sldN dL_law_239 (by omega) hnb ?_
  refine av_aload_n (i := 0) dL_law_240 rfl rfl rfl ?_
  refine av_iload dL_law_241 rfl ?_
  refine av_iconst (v := nI 5) dL_law_243 (by decide) ?_
  refine av_iaddN dL_law_244 ?_
  refine av_sldN dL_law_245 (by omega) hnb ?_
  refine av_aload_n (i := 0) dL_law_246 rfl rfl rfl ?_
  refine av_iload dL_law_247 rfl ?_
  refine av_bipush (v := nI 6) dL_law_249 (by decide) ?_
  refine av_iaddN dL_law_251 ?_
  refine av_sldN dL_law_252 (by omega) hnb ?_
  refine av_invV (c := 12) (n := 5) (As := [_, _, _, _, _]) dL_law_253 cb_X11_rule cv_L_28.1 cv_L_28.2.1 cv_L_28.2.2 rfl (by decide) rfl ⟨Nat.le_of_ble_eq_true rfl, Nat.le_of_ble_eq_true rfl⟩ (Nat.le_of_ble_eq_true rfl) rfl (I.call (fun Q h => c_rule I.2.2.1 h) (fun S1 mc ms n1 b1 b2 => ?_))
  refine av_aload_n (i := 2) dL_law_256 rfl rfl rfl ?_
  refine av_aload_n (i := 0) dL_law_257 rfl rfl rfl ?_
  refine av_iload dL_law_258 rfl ?_
  refine av_iconst (v := 1) dL_law_260 (by decide) ?_
  refine av_iadd1 dL_law_261 ?_
  refine av_sldN dL_law_262 (by omega) hnb ?_
  refine av_aload_n (i := 0) dL_law_263 rfl rfl rfl ?_
  refine av_iload dL_law_264 rfl ?_
  refine av_iconst (v := nI 2) dL_law_266 (by decide) ?_
  refine av_iaddN dL_law_267 ?_
  refine av_sldN dL_law_268 (by omega) hnb ?_
  refine av_i2l dL_law_269 ?_
  refine av_bipush (v := 32) dL_law_270 (by decide) ?_
  refine av_lshl dL_law_272 rfl ?_
  refine av_aload_n (i := 0) dL_law_273 rfl rfl rfl ?_
  refine av_iload dL_law_274 rfl ?_
  refine av_iconst (v := nI 3) dL_law_276 (by decide) ?_
  refine av_iaddN dL_law_277 ?_
  refine av_sldN dL_law_278 (by omega) hnb ?_
  refine av_i2l dL_law_279 ?_
  refine av_ldc2 dL_law_280 kc_L_26 ?_
  refine av_land dL_law_283 ?_
  refine av_lor dL_law_284 ?_
  refine av_aload_n (i := 0) dL_law_285 rfl rfl rfl ?_
  refine av_iload dL_law_286 rfl ?_
  refine av_iconst (v := nI 4) dL_law_288 (by decide) ?_
  refine av_iaddN dL_law_289 ?_
  refine av_sldN dL_law_290 (by omega) hnb ?_
  refine av_aload_n (i := 0) dL_law_291 rfl rfl rfl ?_
  refine av_iload dL_law_292 rfl ?_
  refine av_iconst (v := nI 5) dL_law_294 (by decide) ?_
  refine av_iaddN dL_law_295 ?_
  refine av_sldN dL_law_296 (by omega) hnb ?_
  refine av_aload_n (i := 0) dL_law_297 rfl rfl rfl ?_
  refine av_iload dL_law_298 rfl ?_
  refine av_bipush (v := nI 6) dL_law_300 (by decide) ?_
  refine av_iaddN dL_law_302 ?_
  refine av_sldN dL_law_303 (by omega) hnb ?_
  refine av_sE (par_e n1.1) ?_
  refine av_invV (c := 13) (n := 5) (As := [_, _, _, _, _]) dL_law_304 cb_X12_rule cv_L_32.1 cv_L_32.2.1 cv_L_32.2.2 rfl (by decide) rfl ⟨Nat.le_of_ble_eq_true rfl, Nat.le_of_ble_eq_true rfl⟩ (Nat.le_of_ble_eq_true rfl) rfl (t_rule n1.2.1 (I.2.2.1.1.mI.S (k := 6) (b := 16) (by decide)) _ _ _ _ _ ?_)
  refine av_icmp_eq (tgt := 1485) dL_law_307 (by decide) (fun c_307 => ?_) (fun c_307 => ?_)
  · exact k _ _ _ _ (lwS.put n1.2.1 n1.2.2.1 n1.2.2.2.1) n1.2.2.2.2 (by omega) (by omega)
  · exact absurd rfl c_307
set_option maxHeartbeats 400000 in
set_option maxRecDepth 100000 in
theorem lc_2 {E : awE} {S : awS} {M : aM} {j kc ks : Nat} {Q : Option Value → awS → Nat → Nat → Prop} (I : lwS S M) (hj : 7 * j + 7 ≤ awE_n E) (hnb : awE_n E < 2 ^ 31) (k : lwK E M j kc ks Q) : awV true E m_law 312 (lwL j) [] S kc ks Q := by
  refine av_aload_n (i := 1) dL_law_312 rfl rfl rfl ?_
  refine av_aload_n (i := 0) dL_law_313 rfl rfl rfl ?_
  refine av_iload dL_law_314 rfl ?_
  refine av_iconst (v := 1) dL_law_316 (by decide) ?_
  refine av_iadd1 dL_law_317 ?_
  refine av_sldN dL_law_318 (by omega) hnb ?_
  refine av_aload_n (i := 0) dL_law_319 rfl rfl rfl ?_
  refine av_iload dL_law_320 rfl ?_
  refine av_iconst (v := nI 2) dL_law_322 (by decide) ?_
  refine av_iaddN dL_law_323 ?_
  refine av_sldN dL_law_324 (by omega) hnb ?_
  refine av_aload_n (i := 0) dL_law_325 rfl rfl rfl ?_
  refine av_iload dL_law_326 rfl ?_
  refine av_iconst (v := nI 3) dL_law_328 (by decide) ?_
  refine av_iaddN dL_law_329 ?_
  refine av_sldN dL_law_330 (by omega) hnb ?_
  refine av_invV (c := 12) (n := 3) (As := [_, _, _]) dL_law_331 cb_X11_hold cv_L_33.1 cv_L_33.2.1 cv_L_33.2.2 rfl (by decide) rfl ⟨Nat.le_of_ble_eq_true rfl, Nat.le_of_ble_eq_true rfl⟩ (Nat.le_of_ble_eq_true rfl) rfl (I.call (fun Q h => c_hold I.2.2.1 h) (fun S1 mc ms n1 b1 b2 => ?_))
  refine av_aload_n (i := 2) dL_law_334 rfl rfl rfl ?_
  refine av_aload_n (i := 0) dL_law_335 rfl rfl rfl ?_
  refine av_iload dL_law_336 rfl ?_
  refine av_iconst (v := 1) dL_law_338 (by decide) ?_
  refine av_iadd1 dL_law_339 ?_
  refine av_sldN dL_law_340 (by omega) hnb ?_
  refine av_aload_n (i := 0) dL_law_341 rfl rfl rfl ?_
  refine av_iload dL_law_342 rfl ?_
  refine av_iconst (v := nI 2) dL_law_344 (by decide) ?_
  refine av_iaddN dL_law_345 ?_
  refine av_sldN dL_law_346 (by omega) hnb ?_
  refine av_aload_n (i := 0) dL_law_347 rfl rfl rfl ?_
  refine av_iload dL_law_348 rfl ?_
  refine av_iconst (v := nI 3) dL_law_350 (by decide) ?_
  refine av_iaddN dL_law_351 ?_
  refine av_sldN dL_law_352 (by omega) hnb ?_
  refine av_sE (par_e n1.1) ?_
  refine av_invV (c := 13) (n := 3) (As := [_, _, _]) dL_law_353 cb_X12_hold cv_L_37.1 cv_L_37.2.1 cv_L_37.2.2 rfl (by decide) rfl ⟨Nat.le_of_ble_eq_true rfl, Nat.le_of_ble_eq_true rfl⟩ (Nat.le_of_ble_eq_true rfl) rfl (t_hold n1.2.1 I.2.2.1.1.mI _ _ _ ?_)
  refine av_icmp_eq (tgt := 1485) dL_law_356 (by decide) (fun c_356 => ?_) (fun c_356 => ?_)
  · exact k _ _ _ _ (lwS.put n1.2.1 n1.2.2.1 n1.2.2.2.1) n1.2.2.2.2 (by omega) (by omega)
  · exact absurd rfl c_356
set_option maxHeartbeats 400000 in
set_option maxRecDepth 100000 in
theorem lc_3 {E : awE} {S : awS} {M : aM} {j kc ks : Nat} {Q : Option Value → awS → Nat → Nat → Prop} (I : lwS S M) (hj : 7 * j + 7 ≤ awE_n E) (hnb : awE_n E < 2 ^ 31) (k : lwK E M j kc ks Q) : awV true E m_law 361 (lwL j) [] S kc ks Q := by
  refine av_aload_n (i := 1) dL_law_361 rfl rfl rfl ?_
  refine av_aload_n (i := 0) dL_law_362 rfl rfl rfl ?_
  refine av_iload dL_law_363 rfl ?_
  refine av_iconst (v := 1) dL_law_365 (by decide) ?_
  refine av_iadd1 dL_law_366 ?_
  refine av_sldN dL_law_367 (by omega) hnb ?_
  refine av_aload_n (i := 0) dL_law_368 rfl rfl rfl ?_
  refine av_iload dL_law_369 rfl ?_
  refine av_iconst (v := nI 2) dL_law_371 (by decide) ?_
  refine av_iaddN dL_law_372 ?_
  refine av_sldN dL_law_373 (by omega) hnb ?_
  refine av_aload_n (i := 0) dL_law_374 rfl rfl rfl ?_
  refine av_iload dL_law_375 rfl ?_
  refine av_iconst (v := nI 3) dL_law_377 (by decide) ?_
  refine av_iaddN dL_law_378 ?_
  refine av_sldN dL_law_379 (by omega) hnb ?_
  refine av_aload_n (i := 0) dL_law_380 rfl rfl rfl ?_
  refine av_iload dL_law_381 rfl ?_
  refine av_iconst (v := nI 4) dL_law_383 (by decide) ?_
  refine av_iaddN dL_law_384 ?_
  refine av_sldN dL_law_385 (by omega) hnb ?_
  refine av_aload_n (i := 0) dL_law_386 rfl rfl rfl ?_
  refine av_iload dL_law_387 rfl ?_
  refine av_iconst (v := nI 5) dL_law_389 (by decide) ?_
  refine av_iaddN dL_law_390 ?_
  refine av_sldN dL_law_391 (by omega) hnb ?_
  refine av_invV (c := 12) (n := 5) (As := [_, _, _, _, _]) dL_law_392 cb_X11_silence cv_L_38.1 cv_L_38.2.1 cv_L_38.2.2 rfl (by decide) rfl ⟨Nat.le_of_ble_eq_true rfl, Nat.le_of_ble_eq_true rfl⟩ (Nat.le_of_ble_eq_true rfl) rfl (I.call (fun Q h => c_silence I.2.2.1 h) (fun S1 mc ms n1 b1 b2 => ?_))
  refine av_aload_n (i := 2) dL_law_395 rfl rfl rfl ?_
  refine av_aload_n (i := 0) dL_law_396 rfl rfl rfl ?_
  refine av_iload dL_law_397 rfl ?_
  refine av_iconst (v := 1) dL_law_399 (by decide) ?_
  refine av_iadd1 dL_law_400 ?_
  refine av_sldN dL_law_401 (by omega) hnb ?_
  refine av_aload_n (i := 0) dL_law_402 rfl rfl rfl ?_
  refine av_iload dL_law_403 rfl ?_
  refine av_iconst (v := nI 2) dL_law_405 (by decide) ?_
  refine av_iaddN dL_law_406 ?_
  refine av_sldN dL_law_407 (by omega) hnb ?_
  refine av_aload_n (i := 0) dL_law_408 rfl rfl rfl ?_
  refine av_iload dL_law_409 rfl ?_
  refine av_iconst (v := nI 3) dL_law_411 (by decide) ?_
  refine av_iaddN dL_law_412 ?_
  refine av_sldN dL_law_413 (by omega) hnb ?_
  refine av_aload_n (i := 0) dL_law_414 rfl rfl rfl ?_
  refine av_iload dL_law_415 rfl ?_
  refine av_iconst (v := nI 4) dL_law_417 (by decide) ?_
  refine av_iaddN dL_law_418 ?_
  refine av_sldN dL_law_419 (by omega) hnb ?_
  refine av_aload_n (i := 0) dL_law_420 rfl rfl rfl ?_
  refine av_iload dL_law_421 rfl ?_
  refine av_iconst (v := nI 5) dL_law_423 (by decide) ?_
  refine av_iaddN dL_law_424 ?_
  refine av_sldN dL_law_425 (by omega) hnb ?_
  refine av_sE (par_e n1.1) ?_
  refine av_invV (c := 13) (n := 5) (As := [_, _, _, _, _]) dL_law_426 cb_X12_silence cv_L_42.1 cv_L_42.2.1 cv_L_42.2.2 rfl (by decide) rfl ⟨Nat.le_of_ble_eq_true rfl, Nat.le_of_ble_eq_true rfl⟩ (Nat.le_of_ble_eq_true rfl) rfl (t_silence n1.2.1 (I.2.2.1.1.mI.S (k := 25) (b := 20) (by decide)) _ _ _ _ _ ?_)
  refine av_icmp_eq (tgt := 1485) dL_law_429 (by decide) (fun c_429 => ?_) (fun c_429 => ?_)
  · exact k _ _ _ _ (lwS.put n1.2.1 n1.2.2.1 n1.2.2.2.1) n1.2.2.2.2 (by omega) (by omega)
  · exact absurd rfl c_429
