/-! THE LAW: its cases, one -/
section GK
variable {p : Program} {l : Launch} {e : Env} {s : State} {m : MethodId} {args : Array Value} {below : List Frame} {meth : Method} {c : Code} {D : va_G} {cy : Nat → ClassId} {A : Nat → Prop} {Q : State → Prop} {adx adm : Nat → Nat} {b L : Nat} {xs : Nat → Int32} {i : Nat} {I J : Nat → Nat → Int32} {G H : Nat → Nat → UInt64}
set_option maxHeartbeats 4000000 in
set_option maxRecDepth 100000 in
theorem gl_k1 (hC : gc_X p s m args meth c RL cL_law ret 4 D cy A) (hx : gz_inj adx lx_lay) (hm : gz_inj adm lm_lay) (hX : va_X b L xs s s.heap) (hbl : b < s.heap.size) (hbA : ¬ A b) (hL : L ≤ 3584) (hi : i + 7 ≤ L) (hS : gl_S I J) (hN : ∀ I G J H, gl_S I J → gc_W p l e room_1 s m args below meth c D A 4 Q (gz_ws adx cy lx_lay (I, G) ++ gz_ws adm cy lm_lay (J, H)) 600000 7302250 785 [(0, .ref b), (1, .ref (adx 0)), (2, .ref (adm 0)), (3, .int (nI i))] []) : gc_W p l e room_1 s m args below meth c D A 4 Q (gz_ws adx cy lx_lay (I, G) ++ gz_ws adm cy lm_lay (J, H)) 600000 7302250 189 [(0, .ref b), (1, .ref (adx 0)), (2, .ref (adm 0)), (3, .int (nI i))] [] := by
  obtain ⟨d0, d1, F, w, th, g, hO, k1, k2, k3, k4, k5, k6, k7⟩ := id hS
  refine gc_aload_n hC dL_law_189 rfl ?_
  refine gl_arg hC hX hbl hbA i 1 rfl rfl dL_law_190 dL_law_191 dL_law_192 (by decide) dL_law_193 dL_law_194 (by omega) hL ?_
  refine gl_call (ad := adx) (lay := lx_lay) (M := (I, G)) (k := 0) hC [.int (xs (i + 1))] dL_law_195 ml_L_18 rfl rfl (ct_X7_hands hx _ _ d0 d1 F w hO k1 (xs (i + 1))) hx ⟨(Nat.le_of_ble_eq_true rfl), (Nat.le_of_ble_eq_true rfl)⟩ (Nat.le_of_ble_eq_true rfl) (Nat.le_of_ble_eq_true rfl) (Nat.le_of_ble_eq_true rfl) (fun v7 M7 h7 => ?_)
  obtain ⟨rfl, rfl⟩ := h7
  refine gc_aload_n hC dL_law_198 rfl ?_
  refine gl_arg hC hX hbl hbA i 1 rfl rfl dL_law_199 dL_law_200 dL_law_201 (by decide) dL_law_202 dL_law_203 (by omega) hL ?_
  refine gl_call (ad := adm) (lay := lm_lay) (M := (J, H)) (k := 0) hC [.int (xs (i + 1))] dL_law_204 ml_L_22 rfl rfl (ct_X8_hands hm _ _ d0 d1 F w hO k2 (xs (i + 1))) hm ⟨(Nat.le_of_ble_eq_true rfl), (Nat.le_of_ble_eq_true rfl)⟩ (Nat.le_of_ble_eq_true rfl) (Nat.le_of_ble_eq_true rfl) (Nat.le_of_ble_eq_true rfl) (fun v8 M8 h8 => ?_)
  obtain ⟨rfl, rfl⟩ := h8
  exact gl_icmp_eq hC 785 dL_law_207 (by decide) (fun _ => hN _ _ _ _ hS) (fun q => absurd rfl q)
set_option maxHeartbeats 4000000 in
set_option maxRecDepth 100000 in
theorem gl_k2 (hC : gc_X p s m args meth c RL cL_law ret 4 D cy A) (hx : gz_inj adx lx_lay) (hm : gz_inj adm lm_lay) (hX : va_X b L xs s s.heap) (hbl : b < s.heap.size) (hbA : ¬ A b) (hL : L ≤ 3584) (hi : i + 7 ≤ L) (hS : gl_S I J) (hN : ∀ I G J H, gl_S I J → gc_W p l e room_1 s m args below meth c D A 4 Q (gz_ws adx cy lx_lay (I, G) ++ gz_ws adm cy lm_lay (J, H)) 600000 7302250 785 [(0, .ref b), (1, .ref (adx 0)), (2, .ref (adm 0)), (3, .int (nI i))] []) : gc_W p l e room_1 s m args below meth c D A 4 Q (gz_ws adx cy lx_lay (I, G) ++ gz_ws adm cy lm_lay (J, H)) 600000 7302250 212 [(0, .ref b), (1, .ref (adx 0)), (2, .ref (adm 0)), (3, .int (nI i))] [] := by
  obtain ⟨d0, d1, F, w, th, g, hO, k1, k2, k3, k4, k5, k6, k7⟩ := id hS
  refine gc_aload_n hC dL_law_212 rfl ?_
  refine gl_arg hC hX hbl hbA i 1 rfl rfl dL_law_213 dL_law_214 dL_law_215 (by decide) dL_law_216 dL_law_217 (by omega) hL ?_
  refine gl_arg hC hX hbl hbA i 2 rfl rfl dL_law_218 dL_law_219 dL_law_220 (by decide) dL_law_221 dL_law_222 (by omega) hL ?_
  refine gl_arg hC hX hbl hbA i 3 rfl rfl dL_law_223 dL_law_224 dL_law_225 (by decide) dL_law_226 dL_law_227 (by omega) hL ?_
  refine gl_call (ad := adx) (lay := lx_lay) (M := (I, G)) (k := 0) hC [.int (xs (i + 1)), .int (xs (i + 2)), .int (xs (i + 3))] dL_law_228 ml_L_23 rfl rfl (ct_X7_hand hx _ _ d0 d1 F w hO k1 (xs (i + 1)) (xs (i + 2)) (xs (i + 3))) hx ⟨(Nat.le_of_ble_eq_true rfl), (Nat.le_of_ble_eq_true rfl)⟩ (Nat.le_of_ble_eq_true rfl) (Nat.le_of_ble_eq_true rfl) (Nat.le_of_ble_eq_true rfl) (fun v7 M7 h7 => ?_)
  obtain ⟨rfl, rfl⟩ := h7
  refine gc_aload_n hC dL_law_231 rfl ?_
  refine gl_arg hC hX hbl hbA i 1 rfl rfl dL_law_232 dL_law_233 dL_law_234 (by decide) dL_law_235 dL_law_236 (by omega) hL ?_
  refine gl_arg hC hX hbl hbA i 2 rfl rfl dL_law_237 dL_law_238 dL_law_239 (by decide) dL_law_240 dL_law_241 (by omega) hL ?_
  refine gl_arg hC hX hbl hbA i 3 rfl rfl dL_law_242 dL_law_243 dL_law_244 (by decide) dL_law_245 dL_law_246 (by omega) hL ?_
  refine gl_call (ad := adm) (lay := lm_lay) (M := (J, H)) (k := 0) hC [.int (xs (i + 1)), .int (xs (i + 2)), .int (xs (i + 3))] dL_law_247 ml_L_27 rfl rfl (ct_X8_hand hm _ _ d0 d1 F w hO k2 (xs (i + 1)) (xs (i + 2)) (xs (i + 3))) hm ⟨(Nat.le_of_ble_eq_true rfl), (Nat.le_of_ble_eq_true rfl)⟩ (Nat.le_of_ble_eq_true rfl) (Nat.le_of_ble_eq_true rfl) (Nat.le_of_ble_eq_true rfl) (fun v8 M8 h8 => ?_)
  obtain ⟨rfl, rfl⟩ := h8
  exact gl_icmp_eq hC 785 dL_law_250 (by decide) (fun _ => hN _ _ _ _ hS) (fun q => absurd rfl q)
set_option maxHeartbeats 4000000 in
set_option maxRecDepth 100000 in
theorem gl_k3 (hC : gc_X p s m args meth c RL cL_law ret 4 D cy A) (hx : gz_inj adx lx_lay) (hm : gz_inj adm lm_lay) (hX : va_X b L xs s s.heap) (hbl : b < s.heap.size) (hbA : ¬ A b) (hL : L ≤ 3584) (hi : i + 7 ≤ L) (hS : gl_S I J) (hN : ∀ I G J H, gl_S I J → gc_W p l e room_1 s m args below meth c D A 4 Q (gz_ws adx cy lx_lay (I, G) ++ gz_ws adm cy lm_lay (J, H)) 600000 7302250 785 [(0, .ref b), (1, .ref (adx 0)), (2, .ref (adm 0)), (3, .int (nI i))] []) : gc_W p l e room_1 s m args below meth c D A 4 Q (gz_ws adx cy lx_lay (I, G) ++ gz_ws adm cy lm_lay (J, H)) 600000 7302250 255 [(0, .ref b), (1, .ref (adx 0)), (2, .ref (adm 0)), (3, .int (nI i))] [] := by
  obtain ⟨d0, d1, F, w, th, g, hO, k1, k2, k3, k4, k5, k6, k7⟩ := id hS
  refine gc_aload_n hC dL_law_255 rfl ?_
  refine gl_arg hC hX hbl hbA i 1 rfl rfl dL_law_256 dL_law_257 dL_law_258 (by decide) dL_law_259 dL_law_260 (by omega) hL ?_
  refine gl_arg hC hX hbl hbA i 2 rfl rfl dL_law_261 dL_law_262 dL_law_263 (by decide) dL_law_264 dL_law_265 (by omega) hL ?_
  refine gl_call (ad := adx) (lay := lx_lay) (M := (I, G)) (k := 0) hC [.int (xs (i + 1)), .int (xs (i + 2))] dL_law_266 ml_L_28 rfl rfl (ct_X7_throwsOf hx _ _ d0 d1 F w hO k1 (xs (i + 1)) (xs (i + 2))) hx ⟨(Nat.le_of_ble_eq_true rfl), (Nat.le_of_ble_eq_true rfl)⟩ (Nat.le_of_ble_eq_true rfl) (Nat.le_of_ble_eq_true rfl) (Nat.le_of_ble_eq_true rfl) (fun v7 M7 h7 => ?_)
  obtain ⟨rfl, rfl⟩ := h7
  refine gc_aload_n hC dL_law_269 rfl ?_
  refine gl_arg hC hX hbl hbA i 1 rfl rfl dL_law_270 dL_law_271 dL_law_272 (by decide) dL_law_273 dL_law_274 (by omega) hL ?_
  refine gl_arg hC hX hbl hbA i 2 rfl rfl dL_law_275 dL_law_276 dL_law_277 (by decide) dL_law_278 dL_law_279 (by omega) hL ?_
  refine gl_call (ad := adm) (lay := lm_lay) (M := (J, H)) (k := 0) hC [.int (xs (i + 1)), .int (xs (i + 2))] dL_law_280 ml_L_32 rfl rfl (ct_X8_throwsOf hm _ _ d0 d1 F w hO k2 (xs (i + 1)) (xs (i + 2))) hm ⟨(Nat.le_of_ble_eq_true rfl), (Nat.le_of_ble_eq_true rfl)⟩ (Nat.le_of_ble_eq_true rfl) (Nat.le_of_ble_eq_true rfl) (Nat.le_of_ble_eq_true rfl) (fun v8 M8 h8 => ?_)
  obtain ⟨rfl, rfl⟩ := h8
  exact gl_icmp_eq hC 785 dL_law_283 (by decide) (fun _ => hN _ _ _ _ hS) (fun q => absurd rfl q)
set_option maxHeartbeats 4000000 in
set_option maxRecDepth 100000 in
theorem gl_k4 (hC : gc_X p s m args meth c RL cL_law ret 4 D cy A) (hx : gz_inj adx lx_lay) (hm : gz_inj adm lm_lay) (hX : va_X b L xs s s.heap) (hbl : b < s.heap.size) (hbA : ¬ A b) (hL : L ≤ 3584) (hi : i + 7 ≤ L) (hS : gl_S I J) (hN : ∀ I G J H, gl_S I J → gc_W p l e room_1 s m args below meth c D A 4 Q (gz_ws adx cy lx_lay (I, G) ++ gz_ws adm cy lm_lay (J, H)) 600000 7302250 785 [(0, .ref b), (1, .ref (adx 0)), (2, .ref (adm 0)), (3, .int (nI i))] []) : gc_W p l e room_1 s m args below meth c D A 4 Q (gz_ws adx cy lx_lay (I, G) ++ gz_ws adm cy lm_lay (J, H)) 600000 7302250 288 [(0, .ref b), (1, .ref (adx 0)), (2, .ref (adm 0)), (3, .int (nI i))] [] := by
  obtain ⟨d0, d1, F, w, th, g, hO, k1, k2, k3, k4, k5, k6, k7⟩ := id hS
  refine gc_aload_n hC dL_law_288 rfl ?_
  refine gl_arg hC hX hbl hbA i 1 rfl rfl dL_law_289 dL_law_290 dL_law_291 (by decide) dL_law_292 dL_law_293 (by omega) hL ?_
  refine gl_arg hC hX hbl hbA i 2 rfl rfl dL_law_294 dL_law_295 dL_law_296 (by decide) dL_law_297 dL_law_298 (by omega) hL ?_
  refine gl_arg hC hX hbl hbA i 3 rfl rfl dL_law_299 dL_law_300 dL_law_301 (by decide) dL_law_302 dL_law_303 (by omega) hL ?_
  refine gl_call (ad := adx) (lay := lx_lay) (M := (I, G)) (k := 0) hC [.int (xs (i + 1)), .int (xs (i + 2)), .int (xs (i + 3))] dL_law_304 ml_L_33 rfl rfl (ct_X7_holds hx _ _ d0 d1 F w hO k1 (xs (i + 1)) (xs (i + 2)) (xs (i + 3))) hx ⟨(Nat.le_of_ble_eq_true rfl), (Nat.le_of_ble_eq_true rfl)⟩ (Nat.le_of_ble_eq_true rfl) (Nat.le_of_ble_eq_true rfl) (Nat.le_of_ble_eq_true rfl) (fun v7 M7 h7 => ?_)
  obtain ⟨rfl, rfl⟩ := h7
  refine gc_aload_n hC dL_law_307 rfl ?_
  refine gl_arg hC hX hbl hbA i 1 rfl rfl dL_law_308 dL_law_309 dL_law_310 (by decide) dL_law_311 dL_law_312 (by omega) hL ?_
  refine gl_arg hC hX hbl hbA i 2 rfl rfl dL_law_313 dL_law_314 dL_law_315 (by decide) dL_law_316 dL_law_317 (by omega) hL ?_
  refine gl_arg hC hX hbl hbA i 3 rfl rfl dL_law_318 dL_law_319 dL_law_320 (by decide) dL_law_321 dL_law_322 (by omega) hL ?_
  refine gl_call (ad := adm) (lay := lm_lay) (M := (J, H)) (k := 0) hC [.int (xs (i + 1)), .int (xs (i + 2)), .int (xs (i + 3))] dL_law_323 ml_L_36 rfl rfl (ct_X8_holds hm _ _ d0 d1 F w hO k2 (xs (i + 1)) (xs (i + 2)) (xs (i + 3))) hm ⟨(Nat.le_of_ble_eq_true rfl), (Nat.le_of_ble_eq_true rfl)⟩ (Nat.le_of_ble_eq_true rfl) (Nat.le_of_ble_eq_true rfl) (Nat.le_of_ble_eq_true rfl) (fun v8 M8 h8 => ?_)
  obtain ⟨rfl, rfl⟩ := h8
  exact gl_icmp_eq hC 785 dL_law_326 (by decide) (fun _ => hN _ _ _ _ hS) (fun q => absurd rfl q)
set_option maxHeartbeats 4000000 in
set_option maxRecDepth 100000 in
theorem gl_k5 (hC : gc_X p s m args meth c RL cL_law ret 4 D cy A) (hx : gz_inj adx lx_lay) (hm : gz_inj adm lm_lay) (hX : va_X b L xs s s.heap) (hbl : b < s.heap.size) (hbA : ¬ A b) (hL : L ≤ 3584) (hi : i + 7 ≤ L) (hS : gl_S I J) (hN : ∀ I G J H, gl_S I J → gc_W p l e room_1 s m args below meth c D A 4 Q (gz_ws adx cy lx_lay (I, G) ++ gz_ws adm cy lm_lay (J, H)) 600000 7302250 785 [(0, .ref b), (1, .ref (adx 0)), (2, .ref (adm 0)), (3, .int (nI i))] []) : gc_W p l e room_1 s m args below meth c D A 4 Q (gz_ws adx cy lx_lay (I, G) ++ gz_ws adm cy lm_lay (J, H)) 600000 7302250 331 [(0, .ref b), (1, .ref (adx 0)), (2, .ref (adm 0)), (3, .int (nI i))] [] := by
  obtain ⟨d0, d1, F, w, th, g, hO, k1, k2, k3, k4, k5, k6, k7⟩ := id hS
  refine gc_aload_n hC dL_law_331 rfl ?_
  refine gl_arg hC hX hbl hbA i 1 rfl rfl dL_law_332 dL_law_333 dL_law_334 (by decide) dL_law_335 dL_law_336 (by omega) hL ?_
  refine gl_arg hC hX hbl hbA i 2 rfl rfl dL_law_337 dL_law_338 dL_law_339 (by decide) dL_law_340 dL_law_341 (by omega) hL ?_
  refine gl_arg hC hX hbl hbA i 3 rfl rfl dL_law_342 dL_law_343 dL_law_344 (by decide) dL_law_345 dL_law_346 (by omega) hL ?_
  refine gl_arg hC hX hbl hbA i 4 rfl rfl dL_law_347 dL_law_348 dL_law_349 (by decide) dL_law_350 dL_law_351 (by omega) hL ?_
  refine gl_call (ad := adx) (lay := lx_lay) (M := (I, G)) (k := 0) hC [.int (xs (i + 1)), .int (xs (i + 2)), .int (xs (i + 3)), .int (xs (i + 4))] dL_law_352 ml_L_37 rfl rfl (ct_X7_chance hx _ _ d0 d1 F w hO k1 (xs (i + 1)) (xs (i + 2)) (xs (i + 3)) (xs (i + 4))) hx ⟨(Nat.le_of_ble_eq_true rfl), (Nat.le_of_ble_eq_true rfl)⟩ (Nat.le_of_ble_eq_true rfl) (Nat.le_of_ble_eq_true rfl) (Nat.le_of_ble_eq_true rfl) (fun v7 M7 h7 => ?_)
  obtain ⟨rfl, rfl⟩ := h7
  refine gc_aload_n hC dL_law_355 rfl ?_
  refine gl_arg hC hX hbl hbA i 1 rfl rfl dL_law_356 dL_law_357 dL_law_358 (by decide) dL_law_359 dL_law_360 (by omega) hL ?_
  refine gl_arg hC hX hbl hbA i 2 rfl rfl dL_law_361 dL_law_362 dL_law_363 (by decide) dL_law_364 dL_law_365 (by omega) hL ?_
  refine gl_arg hC hX hbl hbA i 3 rfl rfl dL_law_366 dL_law_367 dL_law_368 (by decide) dL_law_369 dL_law_370 (by omega) hL ?_
  refine gl_arg hC hX hbl hbA i 4 rfl rfl dL_law_371 dL_law_372 dL_law_373 (by decide) dL_law_374 dL_law_375 (by omega) hL ?_
  refine gl_call (ad := adm) (lay := lm_lay) (M := (J, H)) (k := 0) hC [.int (xs (i + 1)), .int (xs (i + 2)), .int (xs (i + 3)), .int (xs (i + 4))] dL_law_376 ml_L_41 rfl rfl (ct_X8_chance hm _ _ d0 d1 F w hO k2 (xs (i + 1)) (xs (i + 2)) (xs (i + 3)) (xs (i + 4))) hm ⟨(Nat.le_of_ble_eq_true rfl), (Nat.le_of_ble_eq_true rfl)⟩ (Nat.le_of_ble_eq_true rfl) (Nat.le_of_ble_eq_true rfl) (Nat.le_of_ble_eq_true rfl) (fun v8 M8 h8 => ?_)
  obtain ⟨rfl, rfl⟩ := h8
  exact gl_icmp_eq hC 785 dL_law_379 (by decide) (fun _ => hN _ _ _ _ hS) (fun q => absurd rfl q)
set_option maxHeartbeats 4000000 in
set_option maxRecDepth 100000 in
theorem gl_k6 (hC : gc_X p s m args meth c RL cL_law ret 4 D cy A) (hx : gz_inj adx lx_lay) (hm : gz_inj adm lm_lay) (hX : va_X b L xs s s.heap) (hbl : b < s.heap.size) (hbA : ¬ A b) (hL : L ≤ 3584) (hi : i + 7 ≤ L) (hS : gl_S I J) (hN : ∀ I G J H, gl_S I J → gc_W p l e room_1 s m args below meth c D A 4 Q (gz_ws adx cy lx_lay (I, G) ++ gz_ws adm cy lm_lay (J, H)) 600000 7302250 785 [(0, .ref b), (1, .ref (adx 0)), (2, .ref (adm 0)), (3, .int (nI i))] []) : gc_W p l e room_1 s m args below meth c D A 4 Q (gz_ws adx cy lx_lay (I, G) ++ gz_ws adm cy lm_lay (J, H)) 600000 7302250 384 [(0, .ref b), (1, .ref (adx 0)), (2, .ref (adm 0)), (3, .int (nI i))] [] := by
  obtain ⟨d0, d1, F, w, th, g, hO, k1, k2, k3, k4, k5, k6, k7⟩ := id hS
  refine gc_aload_n hC dL_law_384 rfl ?_
  refine gl_arg hC hX hbl hbA i 1 rfl rfl dL_law_385 dL_law_386 dL_law_387 (by decide) dL_law_388 dL_law_389 (by omega) hL ?_
  refine gl_arg hC hX hbl hbA i 2 rfl rfl dL_law_390 dL_law_391 dL_law_392 (by decide) dL_law_393 dL_law_394 (by omega) hL ?_
  refine gl_arg hC hX hbl hbA i 3 rfl rfl dL_law_395 dL_law_396 dL_law_397 (by decide) dL_law_398 dL_law_399 (by omega) hL ?_
  refine gl_arg hC hX hbl hbA i 4 rfl rfl dL_law_400 dL_law_401 dL_law_402 (by decide) dL_law_403 dL_law_404 (by omega) hL ?_
  refine gl_call (ad := adx) (lay := lx_lay) (M := (I, G)) (k := 0) hC [.int (xs (i + 1)), .int (xs (i + 2)), .int (xs (i + 3)), .int (xs (i + 4))] dL_law_405 ml_L_42 rfl rfl (ct_X7_surest hx _ _ d0 d1 F w hO k1 (xs (i + 1)) (xs (i + 2)) (xs (i + 3)) (xs (i + 4))) hx ⟨(Nat.le_of_ble_eq_true rfl), (Nat.le_of_ble_eq_true rfl)⟩ (Nat.le_of_ble_eq_true rfl) (Nat.le_of_ble_eq_true rfl) (Nat.le_of_ble_eq_true rfl) (fun v7 M7 h7 => ?_)
  obtain ⟨rfl, rfl⟩ := h7
  refine gc_aload_n hC dL_law_408 rfl ?_
  refine gl_arg hC hX hbl hbA i 1 rfl rfl dL_law_409 dL_law_410 dL_law_411 (by decide) dL_law_412 dL_law_413 (by omega) hL ?_
  refine gl_arg hC hX hbl hbA i 2 rfl rfl dL_law_414 dL_law_415 dL_law_416 (by decide) dL_law_417 dL_law_418 (by omega) hL ?_
  refine gl_arg hC hX hbl hbA i 3 rfl rfl dL_law_419 dL_law_420 dL_law_421 (by decide) dL_law_422 dL_law_423 (by omega) hL ?_
  refine gl_arg hC hX hbl hbA i 4 rfl rfl dL_law_424 dL_law_425 dL_law_426 (by decide) dL_law_427 dL_law_428 (by omega) hL ?_
  refine gl_call (ad := adm) (lay := lm_lay) (M := (J, H)) (k := 0) hC [.int (xs (i + 1)), .int (xs (i + 2)), .int (xs (i + 3)), .int (xs (i + 4))] dL_law_429 ml_L_45 rfl rfl (ct_X8_surest hm _ _ d0 d1 F w hO k2 (xs (i + 1)) (xs (i + 2)) (xs (i + 3)) (xs (i + 4))) hm ⟨(Nat.le_of_ble_eq_true rfl), (Nat.le_of_ble_eq_true rfl)⟩ (Nat.le_of_ble_eq_true rfl) (Nat.le_of_ble_eq_true rfl) (Nat.le_of_ble_eq_true rfl) (fun v8 M8 h8 => ?_)
  obtain ⟨rfl, rfl⟩ := h8
  exact gl_icmp_eq hC 785 dL_law_432 (by decide) (fun _ => hN _ _ _ _ hS) (fun q => absurd rfl q)
end GK
