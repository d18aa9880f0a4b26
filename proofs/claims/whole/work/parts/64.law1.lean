/-! the law: its cases -/
set_option maxHeartbeats 2000000 in
theorem law_0 {p : Program} {l : Launch} {e : Env} {s : State} {m : MethodId} {args : Array Value} {below : List Frame} {meth : Method} {c : Code} {G : GT} {A : Nat → Prop} {Q : State → Prop} (E : CT p s m args meth c 4 G A code RL) {b0 L : Nat} {xs : Nat → Int32} (hX : va_X b0 L xs s s.heap) (hbl : b0 < s.heap.size) (hbA : ¬ A b0) (hL : L ≤ 3072) {a b : Nat → Nat} {x y : MS} (h : TWO x y) {i : Int} (hi : 0 ≤ i) (hi6 : i + 6 ≤ L) (k : ∀ x' y' : MS, TWO x' y' → JX p l e room_1 s m args below meth c 4 G A 59 1028 Q (wsX G a x' ++ wsM G b y') 1211 [(3, vI i), (2, .ref (b 0)), (1, .ref (a 0)), (0, .ref b0)] []) : JX p l e room_1 s m args below meth c 4 G A 59 1028 Q (wsX G a x ++ wsM G b y) 192 [(3, vI i), (2, .ref (b 0)), (1, .ref (a 0)), (0, .ref b0)] [] := by
  refine jx_sw ?_
  refine jx_aload_n E 2 dL_law_192 rfl ?_
  refine jx_aload_n E 3 dL_law_193 rfl ?_
  refine jx_iload_n E 0 dL_law_194 rfl ?_
  refine jx_iconst E dL_law_195 ?_
  refine jx_iadd E dL_law_196 ?_
  refine jx_sld E hX hbl hbA dL_law_197 ?_
  refine jx_aload_n E 3 dL_law_198 rfl ?_
  refine jx_iload_n E 0 dL_law_199 rfl ?_
  refine jx_iconst E dL_law_200 ?_
  refine jx_iadd E dL_law_201 ?_
  refine jx_sld E hX hbl hbA dL_law_202 ?_
  refine jx_partI E [vI (sc xs (i + 1)), vI (sc xs (i + 2))] [] (c_X5_water l G a x (w := (sc xs (i + 1))) (v := (sc xs (i + 2))) h.vx (sc_inR _ _) (sc_inR _ _)) mb_X5_water mv_X5_water wl_L_13 f_X5 wx_obj dL_law_203 ?_
  refine jx_sw ?_
  refine jx_aload_n E 1 dL_law_206 rfl ?_
  refine jx_aload_n E 3 dL_law_207 rfl ?_
  refine jx_iload_n E 0 dL_law_208 rfl ?_
  refine jx_iconst E dL_law_209 ?_
  refine jx_iadd E dL_law_210 ?_
  refine jx_sld E hX hbl hbA dL_law_211 ?_
  refine jx_aload_n E 3 dL_law_212 rfl ?_
  refine jx_iload_n E 0 dL_law_213 rfl ?_
  refine jx_iconst E dL_law_214 ?_
  refine jx_iadd E dL_law_215 ?_
  refine jx_sld E hX hbl hbA dL_law_216 ?_
  refine jx_partI E [vI (sc xs (i + 1)), vI (sc xs (i + 2))] [_] (c_X6_water l G b y (w := (sc xs (i + 1))) (v := (sc xs (i + 2))) h.v (sc_inR _ _) (sc_inR _ _)) mb_X6_water mv_X6_water wl_L_17 f_X6 wm_obj dL_law_217 ?_
  have heq := (k_water h (sc xs (i + 1)) (sc xs (i + 2))).1
  refine jx_same (tgt := 1211) E heq dL_law_220 (by decide) ?_
  exact k _ _ (k_water h (sc xs (i + 1)) (sc xs (i + 2))).2
set_option maxHeartbeats 2000000 in
theorem law_1 {p : Program} {l : Launch} {e : Env} {s : State} {m : MethodId} {args : Array Value} {below : List Frame} {meth : Method} {c : Code} {G : GT} {A : Nat → Prop} {Q : State → Prop} (E : CT p s m args meth c 4 G A code RL) {b0 L : Nat} {xs : Nat → Int32} (hX : va_X b0 L xs s s.heap) (hbl : b0 < s.heap.size) (hbA : ¬ A b0) (hL : L ≤ 3072) {a b : Nat → Nat} {x y : MS} (h : TWO x y) {i : Int} (hi : 0 ≤ i) (hi6 : i + 6 ≤ L) (k : ∀ x' y' : MS, TWO x' y' → JX p l e room_1 s m args below meth c 4 G A 59 1028 Q (wsX G a x' ++ wsM G b y') 1211 [(3, vI i), (2, .ref (b 0)), (1, .ref (a 0)), (0, .ref b0)] []) : JX p l e room_1 s m args below meth c 4 G A 59 1028 Q (wsX G a x ++ wsM G b y) 225 [(3, vI i), (2, .ref (b 0)), (1, .ref (a 0)), (0, .ref b0)] [] := by
  refine jx_sw ?_
  refine jx_aload_n E 2 dL_law_225 rfl ?_
  refine jx_aload_n E 3 dL_law_226 rfl ?_
  refine jx_iload_n E 0 dL_law_227 rfl ?_
  refine jx_iconst E dL_law_228 ?_
  refine jx_iadd E dL_law_229 ?_
  refine jx_sld E hX hbl hbA dL_law_230 ?_
  refine jx_aload_n E 3 dL_law_231 rfl ?_
  refine jx_iload_n E 0 dL_law_232 rfl ?_
  refine jx_iconst E dL_law_233 ?_
  refine jx_iadd E dL_law_234 ?_
  refine jx_sld E hX hbl hbA dL_law_235 ?_
  refine jx_aload_n E 3 dL_law_236 rfl ?_
  refine jx_iload_n E 0 dL_law_237 rfl ?_
  refine jx_iconst E dL_law_238 ?_
  refine jx_iadd E dL_law_239 ?_
  refine jx_sld E hX hbl hbA dL_law_240 ?_
  refine jx_partI E [vI (sc xs (i + 1)), vI (sc xs (i + 2)), vI (sc xs (i + 3))] [] (c_X5_week l G a x (k := (sc xs (i + 1))) (w := (sc xs (i + 2))) (v := (sc xs (i + 3))) h.vx (sc_inR _ _) (sc_inR _ _) (sc_inR _ _)) mb_X5_week mv_X5_week wl_L_18 f_X5 wx_obj dL_law_241 ?_
  refine jx_sw ?_
  refine jx_aload_n E 1 dL_law_244 rfl ?_
  refine jx_aload_n E 3 dL_law_245 rfl ?_
  refine jx_iload_n E 0 dL_law_246 rfl ?_
  refine jx_iconst E dL_law_247 ?_
  refine jx_iadd E dL_law_248 ?_
  refine jx_sld E hX hbl hbA dL_law_249 ?_
  refine jx_aload_n E 3 dL_law_250 rfl ?_
  refine jx_iload_n E 0 dL_law_251 rfl ?_
  refine jx_iconst E dL_law_252 ?_
  refine jx_iadd E dL_law_253 ?_
  refine jx_sld E hX hbl hbA dL_law_254 ?_
  refine jx_aload_n E 3 dL_law_255 rfl ?_
  refine jx_iload_n E 0 dL_law_256 rfl ?_
  refine jx_iconst E dL_law_257 ?_
  refine jx_iadd E dL_law_258 ?_
  refine jx_sld E hX hbl hbA dL_law_259 ?_
  refine jx_partI E [vI (sc xs (i + 1)), vI (sc xs (i + 2)), vI (sc xs (i + 3))] [_] (c_X6_week l G b y (k := (sc xs (i + 1))) (w := (sc xs (i + 2))) (v := (sc xs (i + 3))) h.v (sc_inR _ _) (sc_inR _ _) (sc_inR _ _)) mb_X6_week mv_X6_week wl_L_22 f_X6 wm_obj dL_law_260 ?_
  have heq := (k_week h (sc xs (i + 1)) (sc xs (i + 2)) (sc xs (i + 3))).1
  refine jx_same (tgt := 1211) E heq dL_law_263 (by decide) ?_
  exact k _ _ (k_week h (sc xs (i + 1)) (sc xs (i + 2)) (sc xs (i + 3))).2
set_option maxHeartbeats 2000000 in
theorem law_2 {p : Program} {l : Launch} {e : Env} {s : State} {m : MethodId} {args : Array Value} {below : List Frame} {meth : Method} {c : Code} {G : GT} {A : Nat → Prop} {Q : State → Prop} (E : CT p s m args meth c 4 G A code RL) {b0 L : Nat} {xs : Nat → Int32} (hX : va_X b0 L xs s s.heap) (hbl : b0 < s.heap.size) (hbA : ¬ A b0) (hL : L ≤ 3072) {a b : Nat → Nat} {x y : MS} (h : TWO x y) {i : Int} (hi : 0 ≤ i) (hi6 : i + 6 ≤ L) (k : ∀ x' y' : MS, TWO x' y' → JX p l e room_1 s m args below meth c 4 G A 59 1028 Q (wsX G a x' ++ wsM G b y') 1211 [(3, vI i), (2, .ref (b 0)), (1, .ref (a 0)), (0, .ref b0)] []) : JX p l e room_1 s m args below meth c 4 G A 59 1028 Q (wsX G a x ++ wsM G b y) 268 [(3, vI i), (2, .ref (b 0)), (1, .ref (a 0)), (0, .ref b0)] [] := by
  refine jx_sw ?_
  refine jx_aload_n E 2 dL_law_268 rfl ?_
  refine jx_aload_n E 3 dL_law_269 rfl ?_
  refine jx_iload_n E 0 dL_law_270 rfl ?_
  refine jx_iconst E dL_law_271 ?_
  refine jx_iadd E dL_law_272 ?_
  refine jx_sld E hX hbl hbA dL_law_273 ?_
  refine jx_partI E [vI (sc xs (i + 1))] [] (c_X5_now l G a x (w := (sc xs (i + 1))) h.vx (sc_inR _ _)) mb_X5_now mv_X5_now wl_L_23 f_X5 wx_obj dL_law_274 ?_
  refine jx_sw ?_
  refine jx_aload_n E 1 dL_law_277 rfl ?_
  refine jx_aload_n E 3 dL_law_278 rfl ?_
  refine jx_iload_n E 0 dL_law_279 rfl ?_
  refine jx_iconst E dL_law_280 ?_
  refine jx_iadd E dL_law_281 ?_
  refine jx_sld E hX hbl hbA dL_law_282 ?_
  refine jx_partI E [vI (sc xs (i + 1))] [_] (c_X6_now l G b y (w := (sc xs (i + 1))) h.v (sc_inR _ _)) mb_X6_now mv_X6_now wl_L_27 f_X6 wm_obj dL_law_283 ?_
  have heq := (q_now h.e h.v (sc xs (i + 1)))
  refine jx_same (tgt := 1211) E heq dL_law_286 (by decide) ?_
  exact k _ _ (k_same h heq)
set_option maxHeartbeats 2000000 in
theorem law_3 {p : Program} {l : Launch} {e : Env} {s : State} {m : MethodId} {args : Array Value} {below : List Frame} {meth : Method} {c : Code} {G : GT} {A : Nat → Prop} {Q : State → Prop} (E : CT p s m args meth c 4 G A code RL) {b0 L : Nat} {xs : Nat → Int32} (hX : va_X b0 L xs s s.heap) (hbl : b0 < s.heap.size) (hbA : ¬ A b0) (hL : L ≤ 3072) {a b : Nat → Nat} {x y : MS} (h : TWO x y) {i : Int} (hi : 0 ≤ i) (hi6 : i + 6 ≤ L) (k : ∀ x' y' : MS, TWO x' y' → JX p l e room_1 s m args below meth c 4 G A 59 1028 Q (wsX G a x' ++ wsM G b y') 1211 [(3, vI i), (2, .ref (b 0)), (1, .ref (a 0)), (0, .ref b0)] []) : JX p l e room_1 s m args below meth c 4 G A 59 1028 Q (wsX G a x ++ wsM G b y) 291 [(3, vI i), (2, .ref (b 0)), (1, .ref (a 0)), (0, .ref b0)] [] := by
  refine jx_sw ?_
  refine jx_aload_n E 2 dL_law_291 rfl ?_
  refine jx_aload_n E 3 dL_law_292 rfl ?_
  refine jx_iload_n E 0 dL_law_293 rfl ?_
  refine jx_iconst E dL_law_294 ?_
  refine jx_iadd E dL_law_295 ?_
  refine jx_sld E hX hbl hbA dL_law_296 ?_
  refine jx_partI E [vI (sc xs (i + 1))] [] (c_X5_fountain l G a x (k := (sc xs (i + 1))) h.vx (sc_inR _ _)) mb_X5_fountain mv_X5_fountain wl_L_28 f_X5 wx_obj dL_law_297 ?_
  refine jx_sw ?_
  refine jx_aload_n E 1 dL_law_300 rfl ?_
  refine jx_aload_n E 3 dL_law_301 rfl ?_
  refine jx_iload_n E 0 dL_law_302 rfl ?_
  refine jx_iconst E dL_law_303 ?_
  refine jx_iadd E dL_law_304 ?_
  refine jx_sld E hX hbl hbA dL_law_305 ?_
  refine jx_partI E [vI (sc xs (i + 1))] [_] (c_X6_fountain l G b y (k := (sc xs (i + 1))) h.v (sc_inR _ _)) mb_X6_fountain mv_X6_fountain wl_L_31 f_X6 wm_obj dL_law_306 ?_
  have heq := (k_fountain h (sc xs (i + 1))).1
  refine jx_same (tgt := 1211) E heq dL_law_309 (by decide) ?_
  exact k _ _ (k_fountain h (sc xs (i + 1))).2
set_option maxHeartbeats 2000000 in
theorem law_4 {p : Program} {l : Launch} {e : Env} {s : State} {m : MethodId} {args : Array Value} {below : List Frame} {meth : Method} {c : Code} {G : GT} {A : Nat → Prop} {Q : State → Prop} (E : CT p s m args meth c 4 G A code RL) {b0 L : Nat} {xs : Nat → Int32} (hX : va_X b0 L xs s s.heap) (hbl : b0 < s.heap.size) (hbA : ¬ A b0) (hL : L ≤ 3072) {a b : Nat → Nat} {x y : MS} (h : TWO x y) {i : Int} (hi : 0 ≤ i) (hi6 : i + 6 ≤ L) (k : ∀ x' y' : MS, TWO x' y' → JX p l e room_1 s m args below meth c 4 G A 59 1028 Q (wsX G a x' ++ wsM G b y') 1211 [(3, vI i), (2, .ref (b 0)), (1, .ref (a 0)), (0, .ref b0)] []) : JX p l e room_1 s m args below meth c 4 G A 59 1028 Q (wsX G a x ++ wsM G b y) 314 [(3, vI i), (2, .ref (b 0)), (1, .ref (a 0)), (0, .ref b0)] [] := by
  refine jx_sw ?_
  refine jx_aload_n E 2 dL_law_314 rfl ?_
  refine jx_aload_n E 3 dL_law_315 rfl ?_
  refine jx_iload_n E 0 dL_law_316 rfl ?_
  refine jx_iconst E dL_law_317 ?_
  refine jx_iadd E dL_law_318 ?_
  refine jx_sld E hX hbl hbA dL_law_319 ?_
  refine jx_aload_n E 3 dL_law_320 rfl ?_
  refine jx_iload_n E 0 dL_law_321 rfl ?_
  refine jx_iconst E dL_law_322 ?_
  refine jx_iadd E dL_law_323 ?_
  refine jx_sld E hX hbl hbA dL_law_324 ?_
  refine jx_partI E [vI (sc xs (i + 1)), vI (sc xs (i + 2))] [] (c_X5_of l G a x (f := (sc xs (i + 1))) (w := (sc xs (i + 2))) h.vx (sc_inR _ _) (sc_inR _ _)) mb_X5_of mv_X5_of wl_L_32 f_X5 wx_obj dL_law_325 ?_
  refine jx_sw ?_
  refine jx_aload_n E 1 dL_law_328 rfl ?_
  refine jx_aload_n E 3 dL_law_329 rfl ?_
  refine jx_iload_n E 0 dL_law_330 rfl ?_
  refine jx_iconst E dL_law_331 ?_
  refine jx_iadd E dL_law_332 ?_
  refine jx_sld E hX hbl hbA dL_law_333 ?_
  refine jx_aload_n E 3 dL_law_334 rfl ?_
  refine jx_iload_n E 0 dL_law_335 rfl ?_
  refine jx_iconst E dL_law_336 ?_
  refine jx_iadd E dL_law_337 ?_
  refine jx_sld E hX hbl hbA dL_law_338 ?_
  refine jx_partI E [vI (sc xs (i + 1)), vI (sc xs (i + 2))] [_] (c_X6_of l G b y (f := (sc xs (i + 1))) (w := (sc xs (i + 2))) h.v (sc_inR _ _) (sc_inR _ _)) mb_X6_of mv_X6_of wl_L_35 f_X6 wm_obj dL_law_339 ?_
  have heq := (q_of h.e h.v (sc xs (i + 1)) (sc xs (i + 2)))
  refine jx_same (tgt := 1211) E heq dL_law_342 (by decide) ?_
  exact k _ _ (k_same h heq)
set_option maxHeartbeats 2000000 in
theorem law_5 {p : Program} {l : Launch} {e : Env} {s : State} {m : MethodId} {args : Array Value} {below : List Frame} {meth : Method} {c : Code} {G : GT} {A : Nat → Prop} {Q : State → Prop} (E : CT p s m args meth c 4 G A code RL) {b0 L : Nat} {xs : Nat → Int32} (hX : va_X b0 L xs s s.heap) (hbl : b0 < s.heap.size) (hbA : ¬ A b0) (hL : L ≤ 3072) {a b : Nat → Nat} {x y : MS} (h : TWO x y) {i : Int} (hi : 0 ≤ i) (hi6 : i + 6 ≤ L) (k : ∀ x' y' : MS, TWO x' y' → JX p l e room_1 s m args below meth c 4 G A 59 1028 Q (wsX G a x' ++ wsM G b y') 1211 [(3, vI i), (2, .ref (b 0)), (1, .ref (a 0)), (0, .ref b0)] []) : JX p l e room_1 s m args below meth c 4 G A 59 1028 Q (wsX G a x ++ wsM G b y) 347 [(3, vI i), (2, .ref (b 0)), (1, .ref (a 0)), (0, .ref b0)] [] := by
  refine jx_sw ?_
  refine jx_aload_n E 2 dL_law_347 rfl ?_
  refine jx_aload_n E 3 dL_law_348 rfl ?_
  refine jx_iload_n E 0 dL_law_349 rfl ?_
  refine jx_iconst E dL_law_350 ?_
  refine jx_iadd E dL_law_351 ?_
  refine jx_sld E hX hbl hbA dL_law_352 ?_
  refine jx_aload_n E 3 dL_law_353 rfl ?_
  refine jx_iload_n E 0 dL_law_354 rfl ?_
  refine jx_iconst E dL_law_355 ?_
  refine jx_iadd E dL_law_356 ?_
  refine jx_sld E hX hbl hbA dL_law_357 ?_
  refine jx_aload_n E 3 dL_law_358 rfl ?_
  refine jx_iload_n E 0 dL_law_359 rfl ?_
  refine jx_iconst E dL_law_360 ?_
  refine jx_iadd E dL_law_361 ?_
  refine jx_sld E hX hbl hbA dL_law_362 ?_
  refine jx_partI E [vI (sc xs (i + 1)), vI (sc xs (i + 2)), vI (sc xs (i + 3))] [] (c_X5_set l G a x (f := (sc xs (i + 1))) (w := (sc xs (i + 2))) (v := (sc xs (i + 3))) h.vx (sc_inR _ _) (sc_inR _ _) (sc_inR _ _)) mb_X5_set mv_X5_set wl_L_36 f_X5 wx_obj dL_law_363 ?_
  refine jx_sw ?_
  refine jx_aload_n E 1 dL_law_366 rfl ?_
  refine jx_aload_n E 3 dL_law_367 rfl ?_
  refine jx_iload_n E 0 dL_law_368 rfl ?_
  refine jx_iconst E dL_law_369 ?_
  refine jx_iadd E dL_law_370 ?_
  refine jx_sld E hX hbl hbA dL_law_371 ?_
  refine jx_aload_n E 3 dL_law_372 rfl ?_
  refine jx_iload_n E 0 dL_law_373 rfl ?_
  refine jx_iconst E dL_law_374 ?_
  refine jx_iadd E dL_law_375 ?_
  refine jx_sld E hX hbl hbA dL_law_376 ?_
  refine jx_aload_n E 3 dL_law_377 rfl ?_
  refine jx_iload_n E 0 dL_law_378 rfl ?_
  refine jx_iconst E dL_law_379 ?_
  refine jx_iadd E dL_law_380 ?_
  refine jx_sld E hX hbl hbA dL_law_381 ?_
  refine jx_partI E [vI (sc xs (i + 1)), vI (sc xs (i + 2)), vI (sc xs (i + 3))] [_] (c_X6_set l G b y (f := (sc xs (i + 1))) (w := (sc xs (i + 2))) (v := (sc xs (i + 3))) h.v (sc_inR _ _) (sc_inR _ _) (sc_inR _ _)) mb_X6_set mv_X6_set wl_L_39 f_X6 wm_obj dL_law_382 ?_
  have heq := (k_set h (sc xs (i + 1)) (sc xs (i + 2)) (sc xs (i + 3))).1
  refine jx_same (tgt := 1211) E heq dL_law_385 (by decide) ?_
  exact k _ _ (k_set h (sc xs (i + 1)) (sc xs (i + 2)) (sc xs (i + 3))).2
set_option maxHeartbeats 2000000 in
theorem law_6 {p : Program} {l : Launch} {e : Env} {s : State} {m : MethodId} {args : Array Value} {below : List Frame} {meth : Method} {c : Code} {G : GT} {A : Nat → Prop} {Q : State → Prop} (E : CT p s m args meth c 4 G A code RL) {b0 L : Nat} {xs : Nat → Int32} (hX : va_X b0 L xs s s.heap) (hbl : b0 < s.heap.size) (hbA : ¬ A b0) (hL : L ≤ 3072) {a b : Nat → Nat} {x y : MS} (h : TWO x y) {i : Int} (hi : 0 ≤ i) (hi6 : i + 6 ≤ L) (k : ∀ x' y' : MS, TWO x' y' → JX p l e room_1 s m args below meth c 4 G A 59 1028 Q (wsX G a x' ++ wsM G b y') 1211 [(3, vI i), (2, .ref (b 0)), (1, .ref (a 0)), (0, .ref b0)] []) : JX p l e room_1 s m args below meth c 4 G A 59 1028 Q (wsX G a x ++ wsM G b y) 390 [(3, vI i), (2, .ref (b 0)), (1, .ref (a 0)), (0, .ref b0)] [] := by
  refine jx_sw ?_
  refine jx_aload_n E 2 dL_law_390 rfl ?_
  refine jx_aload_n E 3 dL_law_391 rfl ?_
  refine jx_iload_n E 0 dL_law_392 rfl ?_
  refine jx_iconst E dL_law_393 ?_
  refine jx_iadd E dL_law_394 ?_
  refine jx_sld E hX hbl hbA dL_law_395 ?_
  refine jx_aload_n E 3 dL_law_396 rfl ?_
  refine jx_iload_n E 0 dL_law_397 rfl ?_
  refine jx_iconst E dL_law_398 ?_
  refine jx_iadd E dL_law_399 ?_
  refine jx_sld E hX hbl hbA dL_law_400 ?_
  refine jx_partI E [vI (sc xs (i + 1)), vI (sc xs (i + 2))] [] (c_X5_turn l G a x (f := (sc xs (i + 1))) (k := (sc xs (i + 2))) h.vx (sc_inR _ _) (sc_inR _ _)) mb_X5_turn mv_X5_turn wl_L_40 f_X5 wx_obj dL_law_401 ?_
  refine jx_sw ?_
  refine jx_aload_n E 1 dL_law_404 rfl ?_
  refine jx_aload_n E 3 dL_law_405 rfl ?_
  refine jx_iload_n E 0 dL_law_406 rfl ?_
  refine jx_iconst E dL_law_407 ?_
  refine jx_iadd E dL_law_408 ?_
  refine jx_sld E hX hbl hbA dL_law_409 ?_
  refine jx_aload_n E 3 dL_law_410 rfl ?_
  refine jx_iload_n E 0 dL_law_411 rfl ?_
  refine jx_iconst E dL_law_412 ?_
  refine jx_iadd E dL_law_413 ?_
  refine jx_sld E hX hbl hbA dL_law_414 ?_
  refine jx_partI E [vI (sc xs (i + 1)), vI (sc xs (i + 2))] [_] (c_X6_turn l G b y (f := (sc xs (i + 1))) (k := (sc xs (i + 2))) h.v (sc_inR _ _) (sc_inR _ _)) mb_X6_turn mv_X6_turn wl_L_43 f_X6 wm_obj dL_law_415 ?_
  have heq := (k_turn h (sc xs (i + 1)) (sc xs (i + 2))).1
  refine jx_same (tgt := 1211) E heq dL_law_418 (by decide) ?_
  exact k _ _ (k_turn h (sc xs (i + 1)) (sc xs (i + 2))).2
set_option maxHeartbeats 2000000 in
theorem law_7 {p : Program} {l : Launch} {e : Env} {s : State} {m : MethodId} {args : Array Value} {below : List Frame} {meth : Method} {c : Code} {G : GT} {A : Nat → Prop} {Q : State → Prop} (E : CT p s m args meth c 4 G A code RL) {b0 L : Nat} {xs : Nat → Int32} (hX : va_X b0 L xs s s.heap) (hbl : b0 < s.heap.size) (hbA : ¬ A b0) (hL : L ≤ 3072) {a b : Nat → Nat} {x y : MS} (h : TWO x y) {i : Int} (hi : 0 ≤ i) (hi6 : i + 6 ≤ L) (k : ∀ x' y' : MS, TWO x' y' → JX p l e room_1 s m args below meth c 4 G A 59 1028 Q (wsX G a x' ++ wsM G b y') 1211 [(3, vI i), (2, .ref (b 0)), (1, .ref (a 0)), (0, .ref b0)] []) : JX p l e room_1 s m args below meth c 4 G A 59 1028 Q (wsX G a x ++ wsM G b y) 423 [(3, vI i), (2, .ref (b 0)), (1, .ref (a 0)), (0, .ref b0)] [] := by
  refine jx_sw ?_
  refine jx_aload_n E 2 dL_law_423 rfl ?_
  refine jx_aload_n E 3 dL_law_424 rfl ?_
  refine jx_iload_n E 0 dL_law_425 rfl ?_
  refine jx_iconst E dL_law_426 ?_
  refine jx_iadd E dL_law_427 ?_
  refine jx_sld E hX hbl hbA dL_law_428 ?_
  refine jx_aload_n E 3 dL_law_429 rfl ?_
  refine jx_iload_n E 0 dL_law_430 rfl ?_
  refine jx_iconst E dL_law_431 ?_
  refine jx_iadd E dL_law_432 ?_
  refine jx_sld E hX hbl hbA dL_law_433 ?_
  refine jx_partI E [vI (sc xs (i + 1)), vI (sc xs (i + 2))] [] (c_X5_as l G a x (f := (sc xs (i + 1))) (k := (sc xs (i + 2))) h.vx (sc_inR _ _) (sc_inR _ _)) mb_X5_as mv_X5_as wl_L_44 f_X5 wx_obj dL_law_434 ?_
  refine jx_sw ?_
  refine jx_aload_n E 1 dL_law_437 rfl ?_
  refine jx_aload_n E 3 dL_law_438 rfl ?_
  refine jx_iload_n E 0 dL_law_439 rfl ?_
  refine jx_iconst E dL_law_440 ?_
  refine jx_iadd E dL_law_441 ?_
  refine jx_sld E hX hbl hbA dL_law_442 ?_
  refine jx_aload_n E 3 dL_law_443 rfl ?_
  refine jx_iload_n E 0 dL_law_444 rfl ?_
  refine jx_iconst E dL_law_445 ?_
  refine jx_iadd E dL_law_446 ?_
  refine jx_sld E hX hbl hbA dL_law_447 ?_
  refine jx_partI E [vI (sc xs (i + 1)), vI (sc xs (i + 2))] [_] (c_X6_as l G b y (f := (sc xs (i + 1))) (k := (sc xs (i + 2))) h.v (sc_inR _ _) (sc_inR _ _)) mb_X6_as mv_X6_as wl_L_47 f_X6 wm_obj dL_law_448 ?_
  have heq := (q_as h.e (sc xs (i + 1)) (sc xs (i + 2)))
  refine jx_same (tgt := 1211) E heq dL_law_451 (by decide) ?_
  exact k _ _ (k_same h heq)
set_option maxHeartbeats 2000000 in
theorem law_8 {p : Program} {l : Launch} {e : Env} {s : State} {m : MethodId} {args : Array Value} {below : List Frame} {meth : Method} {c : Code} {G : GT} {A : Nat → Prop} {Q : State → Prop} (E : CT p s m args meth c 4 G A code RL) {b0 L : Nat} {xs : Nat → Int32} (hX : va_X b0 L xs s s.heap) (hbl : b0 < s.heap.size) (hbA : ¬ A b0) (hL : L ≤ 3072) {a b : Nat → Nat} {x y : MS} (h : TWO x y) {i : Int} (hi : 0 ≤ i) (hi6 : i + 6 ≤ L) (k : ∀ x' y' : MS, TWO x' y' → JX p l e room_1 s m args below meth c 4 G A 59 1028 Q (wsX G a x' ++ wsM G b y') 1211 [(3, vI i), (2, .ref (b 0)), (1, .ref (a 0)), (0, .ref b0)] []) : JX p l e room_1 s m args below meth c 4 G A 59 1028 Q (wsX G a x ++ wsM G b y) 456 [(3, vI i), (2, .ref (b 0)), (1, .ref (a 0)), (0, .ref b0)] [] := by
  refine jx_sw ?_
  refine jx_aload_n E 2 dL_law_456 rfl ?_
  refine jx_partI E [] [] (c_X5_next l G a x  h.vx) mb_X5_next mv_X5_next wl_L_48 f_X5 wx_obj dL_law_457 ?_
  refine jx_sw ?_
  refine jx_aload_n E 1 dL_law_460 rfl ?_
  refine jx_partI E [] [_] (c_X6_next l G b y  h.v) mb_X6_next mv_X6_next wl_L_52 f_X6 wm_obj dL_law_461 ?_
  have heq := (q_next h.e)
  refine jx_same (tgt := 1211) E heq dL_law_464 (by decide) ?_
  exact k _ _ (k_same h heq)
set_option maxHeartbeats 2000000 in
theorem law_9 {p : Program} {l : Launch} {e : Env} {s : State} {m : MethodId} {args : Array Value} {below : List Frame} {meth : Method} {c : Code} {G : GT} {A : Nat → Prop} {Q : State → Prop} (E : CT p s m args meth c 4 G A code RL) {b0 L : Nat} {xs : Nat → Int32} (hX : va_X b0 L xs s s.heap) (hbl : b0 < s.heap.size) (hbA : ¬ A b0) (hL : L ≤ 3072) {a b : Nat → Nat} {x y : MS} (h : TWO x y) {i : Int} (hi : 0 ≤ i) (hi6 : i + 6 ≤ L) (k : ∀ x' y' : MS, TWO x' y' → JX p l e room_1 s m args below meth c 4 G A 59 1028 Q (wsX G a x' ++ wsM G b y') 1211 [(3, vI i), (2, .ref (b 0)), (1, .ref (a 0)), (0, .ref b0)] []) : JX p l e room_1 s m args below meth c 4 G A 59 1028 Q (wsX G a x ++ wsM G b y) 469 [(3, vI i), (2, .ref (b 0)), (1, .ref (a 0)), (0, .ref b0)] [] := by
  refine jx_sw ?_
  refine jx_aload_n E 2 dL_law_469 rfl ?_
  refine jx_aload_n E 3 dL_law_470 rfl ?_
  refine jx_iload_n E 0 dL_law_471 rfl ?_
  refine jx_iconst E dL_law_472 ?_
  refine jx_iadd E dL_law_473 ?_
  refine jx_sld E hX hbl hbA dL_law_474 ?_
  refine jx_partI E [vI (sc xs (i + 1))] [] (c_X5_days l G a x (n := (sc xs (i + 1))) h.vx (sc_inR _ _)) mb_X5_days mv_X5_days wl_L_53 f_X5 wx_obj dL_law_475 ?_
  refine jx_sw ?_
  refine jx_aload_n E 1 dL_law_478 rfl ?_
  refine jx_aload_n E 3 dL_law_479 rfl ?_
  refine jx_iload_n E 0 dL_law_480 rfl ?_
  refine jx_iconst E dL_law_481 ?_
  refine jx_iadd E dL_law_482 ?_
  refine jx_sld E hX hbl hbA dL_law_483 ?_
  refine jx_partI E [vI (sc xs (i + 1))] [_] (c_X6_days l G b y (n := (sc xs (i + 1))) h.v (sc_inR _ _)) mb_X6_days mv_X6_days wl_L_56 f_X6 wm_obj dL_law_484 ?_
  have heq := (k_days h (sc xs (i + 1))).1
  refine jx_same (tgt := 1211) E heq dL_law_487 (by decide) ?_
  exact k _ _ (k_days h (sc xs (i + 1))).2
set_option maxHeartbeats 2000000 in
theorem law_10 {p : Program} {l : Launch} {e : Env} {s : State} {m : MethodId} {args : Array Value} {below : List Frame} {meth : Method} {c : Code} {G : GT} {A : Nat → Prop} {Q : State → Prop} (E : CT p s m args meth c 4 G A code RL) {b0 L : Nat} {xs : Nat → Int32} (hX : va_X b0 L xs s s.heap) (hbl : b0 < s.heap.size) (hbA : ¬ A b0) (hL : L ≤ 3072) {a b : Nat → Nat} {x y : MS} (h : TWO x y) {i : Int} (hi : 0 ≤ i) (hi6 : i + 6 ≤ L) (k : ∀ x' y' : MS, TWO x' y' → JX p l e room_1 s m args below meth c 4 G A 59 1028 Q (wsX G a x' ++ wsM G b y') 1211 [(3, vI i), (2, .ref (b 0)), (1, .ref (a 0)), (0, .ref b0)] []) : JX p l e room_1 s m args below meth c 4 G A 59 1028 Q (wsX G a x ++ wsM G b y) 492 [(3, vI i), (2, .ref (b 0)), (1, .ref (a 0)), (0, .ref b0)] [] := by
  refine jx_sw ?_
  refine jx_aload_n E 2 dL_law_492 rfl ?_
  refine jx_aload_n E 3 dL_law_493 rfl ?_
  refine jx_iload_n E 0 dL_law_494 rfl ?_
  refine jx_iconst E dL_law_495 ?_
  refine jx_iadd E dL_law_496 ?_
  refine jx_sld E hX hbl hbA dL_law_497 ?_
  refine jx_aload_n E 3 dL_law_498 rfl ?_
  refine jx_iload_n E 0 dL_law_499 rfl ?_
  refine jx_iconst E dL_law_500 ?_
  refine jx_iadd E dL_law_501 ?_
  refine jx_sld E hX hbl hbA dL_law_502 ?_
  refine jx_partE E [vI (sc xs (i + 1)), vI (sc xs (i + 2))] [] (c_X5_on l G a x (n := (sc xs (i + 1))) (w := (sc xs (i + 2))) h.vx (sc_inR _ _) (sc_inR _ _)) mb_X5_on mv_X5_on wl_L_57 f_X5 wx_obj dL_law_503 (fun u9 => ?_)
  refine jx_sw ?_
  refine jx_aload_n E 1 dL_law_506 rfl ?_
  refine jx_aload_n E 3 dL_law_507 rfl ?_
  refine jx_iload_n E 0 dL_law_508 rfl ?_
  refine jx_iconst E dL_law_509 ?_
  refine jx_iadd E dL_law_510 ?_
  refine jx_sld E hX hbl hbA dL_law_511 ?_
  refine jx_aload_n E 3 dL_law_512 rfl ?_
  refine jx_iload_n E 0 dL_law_513 rfl ?_
  refine jx_iconst E dL_law_514 ?_
  refine jx_iadd E dL_law_515 ?_
  refine jx_sld E hX hbl hbA dL_law_516 ?_
  refine jx_partI E [vI (sc xs (i + 1)), vI (sc xs (i + 2))] [_] (c_X6_on l G b y (n := (sc xs (i + 1))) (w := (sc xs (i + 2))) h.v (sc_inR _ _) (sc_inR _ _)) mb_X6_on mv_X6_on wl_L_60 f_X6 wm_obj dL_law_517 ?_
  have heq := (q_on h.e h.v (sc xs (i + 1)) (sc xs (i + 2)))
  refine jx_same (tgt := 1211) E heq dL_law_520 (by decide) ?_
  exact k _ _ (k_think h heq (_) u9)
set_option maxHeartbeats 2000000 in
theorem law_11 {p : Program} {l : Launch} {e : Env} {s : State} {m : MethodId} {args : Array Value} {below : List Frame} {meth : Method} {c : Code} {G : GT} {A : Nat → Prop} {Q : State → Prop} (E : CT p s m args meth c 4 G A code RL) {b0 L : Nat} {xs : Nat → Int32} (hX : va_X b0 L xs s s.heap) (hbl : b0 < s.heap.size) (hbA : ¬ A b0) (hL : L ≤ 3072) {a b : Nat → Nat} {x y : MS} (h : TWO x y) {i : Int} (hi : 0 ≤ i) (hi6 : i + 6 ≤ L) (k : ∀ x' y' : MS, TWO x' y' → JX p l e room_1 s m args below meth c 4 G A 59 1028 Q (wsX G a x' ++ wsM G b y') 1211 [(3, vI i), (2, .ref (b 0)), (1, .ref (a 0)), (0, .ref b0)] []) : JX p l e room_1 s m args below meth c 4 G A 59 1028 Q (wsX G a x ++ wsM G b y) 525 [(3, vI i), (2, .ref (b 0)), (1, .ref (a 0)), (0, .ref b0)] [] := by
  refine jx_sw ?_
  refine jx_aload_n E 2 dL_law_525 rfl ?_
  refine jx_aload_n E 3 dL_law_526 rfl ?_
  refine jx_iload_n E 0 dL_law_527 rfl ?_
  refine jx_iconst E dL_law_528 ?_
  refine jx_iadd E dL_law_529 ?_
  refine jx_sld E hX hbl hbA dL_law_530 ?_
  refine jx_aload_n E 3 dL_law_531 rfl ?_
  refine jx_iload_n E 0 dL_law_532 rfl ?_
  refine jx_iconst E dL_law_533 ?_
  refine jx_iadd E dL_law_534 ?_
  refine jx_sld E hX hbl hbA dL_law_535 ?_
  refine jx_aload_n E 3 dL_law_536 rfl ?_
  refine jx_iload_n E 0 dL_law_537 rfl ?_
  refine jx_iconst E dL_law_538 ?_
  refine jx_iadd E dL_law_539 ?_
  refine jx_sld E hX hbl hbA dL_law_540 ?_
  refine jx_partE E [vI (sc xs (i + 1)), vI (sc xs (i + 2)), vI (sc xs (i + 3))] [] (c_X5_then l G a x (f := (sc xs (i + 1))) (n := (sc xs (i + 2))) (w := (sc xs (i + 3))) h.vx (sc_inR _ _) (sc_inR _ _) (sc_inR _ _)) mb_X5_then mv_X5_then wl_L_61 f_X5 wx_obj dL_law_541 (fun u9 => ?_)
  refine jx_sw ?_
  refine jx_aload_n E 1 dL_law_544 rfl ?_
  refine jx_aload_n E 3 dL_law_545 rfl ?_
  refine jx_iload_n E 0 dL_law_546 rfl ?_
  refine jx_iconst E dL_law_547 ?_
  refine jx_iadd E dL_law_548 ?_
  refine jx_sld E hX hbl hbA dL_law_549 ?_
  refine jx_aload_n E 3 dL_law_550 rfl ?_
  refine jx_iload_n E 0 dL_law_551 rfl ?_
  refine jx_iconst E dL_law_552 ?_
  refine jx_iadd E dL_law_553 ?_
  refine jx_sld E hX hbl hbA dL_law_554 ?_
  refine jx_aload_n E 3 dL_law_555 rfl ?_
  refine jx_iload_n E 0 dL_law_556 rfl ?_
  refine jx_iconst E dL_law_557 ?_
  refine jx_iadd E dL_law_558 ?_
  refine jx_sld E hX hbl hbA dL_law_559 ?_
  refine jx_partI E [vI (sc xs (i + 1)), vI (sc xs (i + 2)), vI (sc xs (i + 3))] [_] (c_X6_then l G b y (f := (sc xs (i + 1))) (n := (sc xs (i + 2))) (w := (sc xs (i + 3))) h.v (sc_inR _ _) (sc_inR _ _) (sc_inR _ _)) mb_X6_then mv_X6_then wl_L_64 f_X6 wm_obj dL_law_560 ?_
  have heq := (q_then h.e h.v (sc xs (i + 1)) (sc xs (i + 2)) (sc xs (i + 3)))
  refine jx_same (tgt := 1211) E heq dL_law_563 (by decide) ?_
  exact k _ _ (k_think h heq (_) u9)
set_option maxHeartbeats 2000000 in
theorem law_12 {p : Program} {l : Launch} {e : Env} {s : State} {m : MethodId} {args : Array Value} {below : List Frame} {meth : Method} {c : Code} {G : GT} {A : Nat → Prop} {Q : State → Prop} (E : CT p s m args meth c 4 G A code RL) {b0 L : Nat} {xs : Nat → Int32} (hX : va_X b0 L xs s s.heap) (hbl : b0 < s.heap.size) (hbA : ¬ A b0) (hL : L ≤ 3072) {a b : Nat → Nat} {x y : MS} (h : TWO x y) {i : Int} (hi : 0 ≤ i) (hi6 : i + 6 ≤ L) (k : ∀ x' y' : MS, TWO x' y' → JX p l e room_1 s m args below meth c 4 G A 59 1028 Q (wsX G a x' ++ wsM G b y') 1211 [(3, vI i), (2, .ref (b 0)), (1, .ref (a 0)), (0, .ref b0)] []) : JX p l e room_1 s m args below meth c 4 G A 59 1028 Q (wsX G a x ++ wsM G b y) 568 [(3, vI i), (2, .ref (b 0)), (1, .ref (a 0)), (0, .ref b0)] [] := by
  refine jx_sw ?_
  refine jx_aload_n E 2 dL_law_568 rfl ?_
  refine jx_aload_n E 3 dL_law_569 rfl ?_
  refine jx_iload_n E 0 dL_law_570 rfl ?_
  refine jx_iconst E dL_law_571 ?_
  refine jx_iadd E dL_law_572 ?_
  refine jx_sld E hX hbl hbA dL_law_573 ?_
  refine jx_partE E [vI (sc xs (i + 1))] [] (c_X5_falls l G a x (v := (sc xs (i + 1))) h.vx (sc_inR _ _)) mb_X5_falls mv_X5_falls wl_L_65 f_X5 wx_obj dL_law_574 (fun u9 => ?_)
  refine jx_sw ?_
  refine jx_aload_n E 1 dL_law_577 rfl ?_
  refine jx_aload_n E 3 dL_law_578 rfl ?_
  refine jx_iload_n E 0 dL_law_579 rfl ?_
  refine jx_iconst E dL_law_580 ?_
  refine jx_iadd E dL_law_581 ?_
  refine jx_sld E hX hbl hbA dL_law_582 ?_
  refine jx_partI E [vI (sc xs (i + 1))] [_] (c_X6_falls l G b y (v := (sc xs (i + 1))) h.v (sc_inR _ _)) mb_X6_falls mv_X6_falls wl_L_68 f_X6 wm_obj dL_law_583 ?_
  have heq := (q_falls h.e h.v (sc xs (i + 1)))
  refine jx_same (tgt := 1211) E heq dL_law_586 (by decide) ?_
  exact k _ _ (k_think h heq (_) u9)
set_option maxHeartbeats 2000000 in
theorem law_13 {p : Program} {l : Launch} {e : Env} {s : State} {m : MethodId} {args : Array Value} {below : List Frame} {meth : Method} {c : Code} {G : GT} {A : Nat → Prop} {Q : State → Prop} (E : CT p s m args meth c 4 G A code RL) {b0 L : Nat} {xs : Nat → Int32} (hX : va_X b0 L xs s s.heap) (hbl : b0 < s.heap.size) (hbA : ¬ A b0) (hL : L ≤ 3072) {a b : Nat → Nat} {x y : MS} (h : TWO x y) {i : Int} (hi : 0 ≤ i) (hi6 : i + 6 ≤ L) (k : ∀ x' y' : MS, TWO x' y' → JX p l e room_1 s m args below meth c 4 G A 59 1028 Q (wsX G a x' ++ wsM G b y') 1211 [(3, vI i), (2, .ref (b 0)), (1, .ref (a 0)), (0, .ref b0)] []) : JX p l e room_1 s m args below meth c 4 G A 59 1028 Q (wsX G a x ++ wsM G b y) 591 [(3, vI i), (2, .ref (b 0)), (1, .ref (a 0)), (0, .ref b0)] [] := by
  refine jx_sw ?_
  refine jx_aload_n E 2 dL_law_591 rfl ?_
  refine jx_aload_n E 3 dL_law_592 rfl ?_
  refine jx_iload_n E 0 dL_law_593 rfl ?_
  refine jx_iconst E dL_law_594 ?_
  refine jx_iadd E dL_law_595 ?_
  refine jx_sld E hX hbl hbA dL_law_596 ?_
  refine jx_partE E [vI (sc xs (i + 1))] [] (c_X5_off l G a x (f := (sc xs (i + 1))) h.vx (sc_inR _ _)) mb_X5_off mv_X5_off wl_L_69 f_X5 wx_obj dL_law_597 (fun u9 => ?_)
  refine jx_sw ?_
  refine jx_aload_n E 1 dL_law_600 rfl ?_
  refine jx_aload_n E 3 dL_law_601 rfl ?_
  refine jx_iload_n E 0 dL_law_602 rfl ?_
  refine jx_iconst E dL_law_603 ?_
  refine jx_iadd E dL_law_604 ?_
  refine jx_sld E hX hbl hbA dL_law_605 ?_
  refine jx_partI E [vI (sc xs (i + 1))] [_] (c_X6_off l G b y (f := (sc xs (i + 1))) h.v (sc_inR _ _)) mb_X6_off mv_X6_off wl_L_72 f_X6 wm_obj dL_law_606 ?_
  have heq := (q_off h.e h.v (sc xs (i + 1)))
  refine jx_same (tgt := 1211) E heq dL_law_609 (by decide) ?_
  exact k _ _ (k_think h heq (_) u9)
set_option maxHeartbeats 2000000 in
theorem law_14 {p : Program} {l : Launch} {e : Env} {s : State} {m : MethodId} {args : Array Value} {below : List Frame} {meth : Method} {c : Code} {G : GT} {A : Nat → Prop} {Q : State → Prop} (E : CT p s m args meth c 4 G A code RL) {b0 L : Nat} {xs : Nat → Int32} (hX : va_X b0 L xs s s.heap) (hbl : b0 < s.heap.size) (hbA : ¬ A b0) (hL : L ≤ 3072) {a b : Nat → Nat} {x y : MS} (h : TWO x y) {i : Int} (hi : 0 ≤ i) (hi6 : i + 6 ≤ L) (k : ∀ x' y' : MS, TWO x' y' → JX p l e room_1 s m args below meth c 4 G A 59 1028 Q (wsX G a x' ++ wsM G b y') 1211 [(3, vI i), (2, .ref (b 0)), (1, .ref (a 0)), (0, .ref b0)] []) : JX p l e room_1 s m args below meth c 4 G A 59 1028 Q (wsX G a x ++ wsM G b y) 614 [(3, vI i), (2, .ref (b 0)), (1, .ref (a 0)), (0, .ref b0)] [] := by
  refine jx_sw ?_
  refine jx_aload_n E 2 dL_law_614 rfl ?_
  refine jx_partE E [] [] (c_X5_quiet l G a x  h.vx) mb_X5_quiet mv_X5_quiet wl_L_73 f_X5 wx_obj dL_law_615 (fun u9 => ?_)
  refine jx_sw ?_
  refine jx_aload_n E 1 dL_law_618 rfl ?_
  refine jx_partI E [] [_] (c_X6_quiet l G b y  h.v) mb_X6_quiet mv_X6_quiet wl_L_76 f_X6 wm_obj dL_law_619 ?_
  have heq := (q_quiet h.e h.v)
  refine jx_same (tgt := 1211) E heq dL_law_622 (by decide) ?_
  exact k _ _ (k_think0 h heq u9)
set_option maxHeartbeats 2000000 in
theorem law_15 {p : Program} {l : Launch} {e : Env} {s : State} {m : MethodId} {args : Array Value} {below : List Frame} {meth : Method} {c : Code} {G : GT} {A : Nat → Prop} {Q : State → Prop} (E : CT p s m args meth c 4 G A code RL) {b0 L : Nat} {xs : Nat → Int32} (hX : va_X b0 L xs s s.heap) (hbl : b0 < s.heap.size) (hbA : ¬ A b0) (hL : L ≤ 3072) {a b : Nat → Nat} {x y : MS} (h : TWO x y) {i : Int} (hi : 0 ≤ i) (hi6 : i + 6 ≤ L) (k : ∀ x' y' : MS, TWO x' y' → JX p l e room_1 s m args below meth c 4 G A 59 1028 Q (wsX G a x' ++ wsM G b y') 1211 [(3, vI i), (2, .ref (b 0)), (1, .ref (a 0)), (0, .ref b0)] []) : JX p l e room_1 s m args below meth c 4 G A 59 1028 Q (wsX G a x ++ wsM G b y) 627 [(3, vI i), (2, .ref (b 0)), (1, .ref (a 0)), (0, .ref b0)] [] := by
  refine jx_sw ?_
  refine jx_aload_n E 2 dL_law_627 rfl ?_
  refine jx_aload_n E 3 dL_law_628 rfl ?_
  refine jx_iload_n E 0 dL_law_629 rfl ?_
  refine jx_iconst E dL_law_630 ?_
  refine jx_iadd E dL_law_631 ?_
  refine jx_sld E hX hbl hbA dL_law_632 ?_
  refine jx_partE E [vI (sc xs (i + 1))] [] (c_X5_best l G a x (n := (sc xs (i + 1))) h.vx (sc_inR _ _)) mb_X5_best mv_X5_best wl_L_77 f_X5 wx_obj dL_law_633 (fun u9 => ?_)
  refine jx_sw ?_
  refine jx_aload_n E 1 dL_law_636 rfl ?_
  refine jx_aload_n E 3 dL_law_637 rfl ?_
  refine jx_iload_n E 0 dL_law_638 rfl ?_
  refine jx_iconst E dL_law_639 ?_
  refine jx_iadd E dL_law_640 ?_
  refine jx_sld E hX hbl hbA dL_law_641 ?_
  refine jx_partI E [vI (sc xs (i + 1))] [_] (c_X6_best l G b y (n := (sc xs (i + 1))) h.v (sc_inR _ _)) mb_X6_best mv_X6_best wl_L_80 f_X6 wm_obj dL_law_642 ?_
  have heq := (q_best h.e h.v (sc xs (i + 1)))
  refine jx_same (tgt := 1211) E heq dL_law_645 (by decide) ?_
  exact k _ _ (k_think h heq (_) u9)
set_option maxHeartbeats 2000000 in
theorem law_16 {p : Program} {l : Launch} {e : Env} {s : State} {m : MethodId} {args : Array Value} {below : List Frame} {meth : Method} {c : Code} {G : GT} {A : Nat → Prop} {Q : State → Prop} (E : CT p s m args meth c 4 G A code RL) {b0 L : Nat} {xs : Nat → Int32} (hX : va_X b0 L xs s s.heap) (hbl : b0 < s.heap.size) (hbA : ¬ A b0) (hL : L ≤ 3072) {a b : Nat → Nat} {x y : MS} (h : TWO x y) {i : Int} (hi : 0 ≤ i) (hi6 : i + 6 ≤ L) (k : ∀ x' y' : MS, TWO x' y' → JX p l e room_1 s m args below meth c 4 G A 59 1028 Q (wsX G a x' ++ wsM G b y') 1211 [(3, vI i), (2, .ref (b 0)), (1, .ref (a 0)), (0, .ref b0)] []) : JX p l e room_1 s m args below meth c 4 G A 59 1028 Q (wsX G a x ++ wsM G b y) 650 [(3, vI i), (2, .ref (b 0)), (1, .ref (a 0)), (0, .ref b0)] [] := by
  refine jx_sw ?_
  refine jx_aload_n E 2 dL_law_650 rfl ?_
  refine jx_aload_n E 3 dL_law_651 rfl ?_
  refine jx_iload_n E 0 dL_law_652 rfl ?_
  refine jx_iconst E dL_law_653 ?_
  refine jx_iadd E dL_law_654 ?_
  refine jx_sld E hX hbl hbA dL_law_655 ?_
  refine jx_aload_n E 3 dL_law_656 rfl ?_
  refine jx_iload_n E 0 dL_law_657 rfl ?_
  refine jx_iconst E dL_law_658 ?_
  refine jx_iadd E dL_law_659 ?_
  refine jx_sld E hX hbl hbA dL_law_660 ?_
  refine jx_partE E [vI (sc xs (i + 1)), vI (sc xs (i + 2))] [] (c_X5_high l G a x (f := (sc xs (i + 1))) (n := (sc xs (i + 2))) h.vx (sc_inR _ _) (sc_inR _ _)) mb_X5_high mv_X5_high wl_L_81 f_X5 wx_obj dL_law_661 (fun u9 => ?_)
  refine jx_sw ?_
  refine jx_aload_n E 1 dL_law_664 rfl ?_
  refine jx_aload_n E 3 dL_law_665 rfl ?_
  refine jx_iload_n E 0 dL_law_666 rfl ?_
  refine jx_iconst E dL_law_667 ?_
  refine jx_iadd E dL_law_668 ?_
  refine jx_sld E hX hbl hbA dL_law_669 ?_
  refine jx_aload_n E 3 dL_law_670 rfl ?_
  refine jx_iload_n E 0 dL_law_671 rfl ?_
  refine jx_iconst E dL_law_672 ?_
  refine jx_iadd E dL_law_673 ?_
  refine jx_sld E hX hbl hbA dL_law_674 ?_
  refine jx_partI E [vI (sc xs (i + 1)), vI (sc xs (i + 2))] [_] (c_X6_high l G b y (f := (sc xs (i + 1))) (n := (sc xs (i + 2))) h.v (sc_inR _ _) (sc_inR _ _)) mb_X6_high mv_X6_high wl_L_84 f_X6 wm_obj dL_law_675 ?_
  have heq := (q_high h.e h.v (sc xs (i + 1)) (sc xs (i + 2)))
  refine jx_same (tgt := 1211) E heq dL_law_678 (by decide) ?_
  exact k _ _ (k_think h heq (_) u9)
set_option maxHeartbeats 2000000 in
theorem law_17 {p : Program} {l : Launch} {e : Env} {s : State} {m : MethodId} {args : Array Value} {below : List Frame} {meth : Method} {c : Code} {G : GT} {A : Nat → Prop} {Q : State → Prop} (E : CT p s m args meth c 4 G A code RL) {b0 L : Nat} {xs : Nat → Int32} (hX : va_X b0 L xs s s.heap) (hbl : b0 < s.heap.size) (hbA : ¬ A b0) (hL : L ≤ 3072) {a b : Nat → Nat} {x y : MS} (h : TWO x y) {i : Int} (hi : 0 ≤ i) (hi6 : i + 6 ≤ L) (k : ∀ x' y' : MS, TWO x' y' → JX p l e room_1 s m args below meth c 4 G A 59 1028 Q (wsX G a x' ++ wsM G b y') 1211 [(3, vI i), (2, .ref (b 0)), (1, .ref (a 0)), (0, .ref b0)] []) : JX p l e room_1 s m args below meth c 4 G A 59 1028 Q (wsX G a x ++ wsM G b y) 683 [(3, vI i), (2, .ref (b 0)), (1, .ref (a 0)), (0, .ref b0)] [] := by
  refine jx_sw ?_
  refine jx_aload_n E 2 dL_law_683 rfl ?_
  refine jx_aload_n E 3 dL_law_684 rfl ?_
  refine jx_iload_n E 0 dL_law_685 rfl ?_
  refine jx_iconst E dL_law_686 ?_
  refine jx_iadd E dL_law_687 ?_
  refine jx_sld E hX hbl hbA dL_law_688 ?_
  refine jx_aload_n E 3 dL_law_689 rfl ?_
  refine jx_iload_n E 0 dL_law_690 rfl ?_
  refine jx_iconst E dL_law_691 ?_
  refine jx_iadd E dL_law_692 ?_
  refine jx_sld E hX hbl hbA dL_law_693 ?_
  refine jx_partE E [vI (sc xs (i + 1)), vI (sc xs (i + 2))] [] (c_X5_loved l G a x (f := (sc xs (i + 1))) (n := (sc xs (i + 2))) h.vx (sc_inR _ _) (sc_inR _ _)) mb_X5_loved mv_X5_loved wl_L_85 f_X5 wx_obj dL_law_694 (fun u9 => ?_)
  refine jx_sw ?_
  refine jx_aload_n E 1 dL_law_697 rfl ?_
  refine jx_aload_n E 3 dL_law_698 rfl ?_
  refine jx_iload_n E 0 dL_law_699 rfl ?_
  refine jx_iconst E dL_law_700 ?_
  refine jx_iadd E dL_law_701 ?_
  refine jx_sld E hX hbl hbA dL_law_702 ?_
  refine jx_aload_n E 3 dL_law_703 rfl ?_
  refine jx_iload_n E 0 dL_law_704 rfl ?_
  refine jx_iconst E dL_law_705 ?_
  refine jx_iadd E dL_law_706 ?_
  refine jx_sld E hX hbl hbA dL_law_707 ?_
  refine jx_partI E [vI (sc xs (i + 1)), vI (sc xs (i + 2))] [_] (c_X6_loved l G b y (f := (sc xs (i + 1))) (n := (sc xs (i + 2))) h.v (sc_inR _ _) (sc_inR _ _)) mb_X6_loved mv_X6_loved wl_L_88 f_X6 wm_obj dL_law_708 ?_
  have heq := (q_loved h.e h.v (sc xs (i + 1)) (sc xs (i + 2)))
  refine jx_same (tgt := 1211) E heq dL_law_711 (by decide) ?_
  exact k _ _ (k_think h heq (_) u9)
set_option maxHeartbeats 2000000 in
theorem law_18 {p : Program} {l : Launch} {e : Env} {s : State} {m : MethodId} {args : Array Value} {below : List Frame} {meth : Method} {c : Code} {G : GT} {A : Nat → Prop} {Q : State → Prop} (E : CT p s m args meth c 4 G A code RL) {b0 L : Nat} {xs : Nat → Int32} (hX : va_X b0 L xs s s.heap) (hbl : b0 < s.heap.size) (hbA : ¬ A b0) (hL : L ≤ 3072) {a b : Nat → Nat} {x y : MS} (h : TWO x y) {i : Int} (hi : 0 ≤ i) (hi6 : i + 6 ≤ L) (k : ∀ x' y' : MS, TWO x' y' → JX p l e room_1 s m args below meth c 4 G A 59 1028 Q (wsX G a x' ++ wsM G b y') 1211 [(3, vI i), (2, .ref (b 0)), (1, .ref (a 0)), (0, .ref b0)] []) : JX p l e room_1 s m args below meth c 4 G A 59 1028 Q (wsX G a x ++ wsM G b y) 716 [(3, vI i), (2, .ref (b 0)), (1, .ref (a 0)), (0, .ref b0)] [] := by
  refine jx_sw ?_
  refine jx_aload_n E 2 dL_law_716 rfl ?_
  refine jx_aload_n E 3 dL_law_717 rfl ?_
  refine jx_iload_n E 0 dL_law_718 rfl ?_
  refine jx_iconst E dL_law_719 ?_
  refine jx_iadd E dL_law_720 ?_
  refine jx_sld E hX hbl hbA dL_law_721 ?_
  refine jx_partE E [vI (sc xs (i + 1))] [] (c_X5_kind l G a x (f := (sc xs (i + 1))) h.vx (sc_inR _ _)) mb_X5_kind mv_X5_kind wl_L_89 f_X5 wx_obj dL_law_722 (fun u9 => ?_)
  refine jx_sw ?_
  refine jx_aload_n E 1 dL_law_725 rfl ?_
  refine jx_aload_n E 3 dL_law_726 rfl ?_
  refine jx_iload_n E 0 dL_law_727 rfl ?_
  refine jx_iconst E dL_law_728 ?_
  refine jx_iadd E dL_law_729 ?_
  refine jx_sld E hX hbl hbA dL_law_730 ?_
  refine jx_partI E [vI (sc xs (i + 1))] [_] (c_X6_kind l G b y (f := (sc xs (i + 1))) h.v (sc_inR _ _)) mb_X6_kind mv_X6_kind wl_L_92 f_X6 wm_obj dL_law_731 ?_
  have heq := (q_kind h.e h.v (sc xs (i + 1)))
  refine jx_same (tgt := 1211) E heq dL_law_734 (by decide) ?_
  exact k _ _ (k_think h heq (_) u9)
set_option maxHeartbeats 2000000 in
theorem law_19 {p : Program} {l : Launch} {e : Env} {s : State} {m : MethodId} {args : Array Value} {below : List Frame} {meth : Method} {c : Code} {G : GT} {A : Nat → Prop} {Q : State → Prop} (E : CT p s m args meth c 4 G A code RL) {b0 L : Nat} {xs : Nat → Int32} (hX : va_X b0 L xs s s.heap) (hbl : b0 < s.heap.size) (hbA : ¬ A b0) (hL : L ≤ 3072) {a b : Nat → Nat} {x y : MS} (h : TWO x y) {i : Int} (hi : 0 ≤ i) (hi6 : i + 6 ≤ L) (k : ∀ x' y' : MS, TWO x' y' → JX p l e room_1 s m args below meth c 4 G A 59 1028 Q (wsX G a x' ++ wsM G b y') 1211 [(3, vI i), (2, .ref (b 0)), (1, .ref (a 0)), (0, .ref b0)] []) : JX p l e room_1 s m args below meth c 4 G A 59 1028 Q (wsX G a x ++ wsM G b y) 739 [(3, vI i), (2, .ref (b 0)), (1, .ref (a 0)), (0, .ref b0)] [] := by
  refine jx_sw ?_
  refine jx_aload_n E 2 dL_law_739 rfl ?_
  refine jx_aload_n E 3 dL_law_740 rfl ?_
  refine jx_iload_n E 0 dL_law_741 rfl ?_
  refine jx_iconst E dL_law_742 ?_
  refine jx_iadd E dL_law_743 ?_
  refine jx_sld E hX hbl hbA dL_law_744 ?_
  refine jx_partE E [vI (sc xs (i + 1))] [] (c_X5_rain l G a x (n := (sc xs (i + 1))) h.vx (sc_inR _ _)) mb_X5_rain mv_X5_rain wl_L_93 f_X5 wx_obj dL_law_745 (fun u9 => ?_)
  refine jx_sw ?_
  refine jx_aload_n E 1 dL_law_748 rfl ?_
  refine jx_aload_n E 3 dL_law_749 rfl ?_
  refine jx_iload_n E 0 dL_law_750 rfl ?_
  refine jx_iconst E dL_law_751 ?_
  refine jx_iadd E dL_law_752 ?_
  refine jx_sld E hX hbl hbA dL_law_753 ?_
  refine jx_partI E [vI (sc xs (i + 1))] [_] (c_X6_rain l G b y (n := (sc xs (i + 1))) h.v (sc_inR _ _)) mb_X6_rain mv_X6_rain wl_L_96 f_X6 wm_obj dL_law_754 ?_
  have heq := (q_rain h.e h.v (sc xs (i + 1)))
  refine jx_same (tgt := 1211) E heq dL_law_757 (by decide) ?_
  exact k _ _ (k_think h heq (_) u9)
set_option maxHeartbeats 2000000 in
theorem law_20 {p : Program} {l : Launch} {e : Env} {s : State} {m : MethodId} {args : Array Value} {below : List Frame} {meth : Method} {c : Code} {G : GT} {A : Nat → Prop} {Q : State → Prop} (E : CT p s m args meth c 4 G A code RL) {b0 L : Nat} {xs : Nat → Int32} (hX : va_X b0 L xs s s.heap) (hbl : b0 < s.heap.size) (hbA : ¬ A b0) (hL : L ≤ 3072) {a b : Nat → Nat} {x y : MS} (h : TWO x y) {i : Int} (hi : 0 ≤ i) (hi6 : i + 6 ≤ L) (k : ∀ x' y' : MS, TWO x' y' → JX p l e room_1 s m args below meth c 4 G A 59 1028 Q (wsX G a x' ++ wsM G b y') 1211 [(3, vI i), (2, .ref (b 0)), (1, .ref (a 0)), (0, .ref b0)] []) : JX p l e room_1 s m args below meth c 4 G A 59 1028 Q (wsX G a x ++ wsM G b y) 762 [(3, vI i), (2, .ref (b 0)), (1, .ref (a 0)), (0, .ref b0)] [] := by
  refine jx_sw ?_
  refine jx_aload_n E 2 dL_law_762 rfl ?_
  refine jx_aload_n E 3 dL_law_763 rfl ?_
  refine jx_iload_n E 0 dL_law_764 rfl ?_
  refine jx_iconst E dL_law_765 ?_
  refine jx_iadd E dL_law_766 ?_
  refine jx_sld E hX hbl hbA dL_law_767 ?_
  refine jx_partE E [vI (sc xs (i + 1))] [] (c_X5_enough l G a x (n := (sc xs (i + 1))) h.vx (sc_inR _ _)) mb_X5_enough mv_X5_enough wl_L_97 f_X5 wx_obj dL_law_768 (fun u9 => ?_)
  refine jx_sw ?_
  refine jx_aload_n E 1 dL_law_771 rfl ?_
  refine jx_aload_n E 3 dL_law_772 rfl ?_
  refine jx_iload_n E 0 dL_law_773 rfl ?_
  refine jx_iconst E dL_law_774 ?_
  refine jx_iadd E dL_law_775 ?_
  refine jx_sld E hX hbl hbA dL_law_776 ?_
  refine jx_partI E [vI (sc xs (i + 1))] [_] (c_X6_enough l G b y (n := (sc xs (i + 1))) h.v (sc_inR _ _)) mb_X6_enough mv_X6_enough wl_L_100 f_X6 wm_obj dL_law_777 ?_
  have heq := (q_enough h.e h.v (sc xs (i + 1)))
  refine jx_same (tgt := 1211) E heq dL_law_780 (by decide) ?_
  exact k _ _ (k_think h heq (_) u9)
set_option maxHeartbeats 2000000 in
theorem law_21 {p : Program} {l : Launch} {e : Env} {s : State} {m : MethodId} {args : Array Value} {below : List Frame} {meth : Method} {c : Code} {G : GT} {A : Nat → Prop} {Q : State → Prop} (E : CT p s m args meth c 4 G A code RL) {b0 L : Nat} {xs : Nat → Int32} (hX : va_X b0 L xs s s.heap) (hbl : b0 < s.heap.size) (hbA : ¬ A b0) (hL : L ≤ 3072) {a b : Nat → Nat} {x y : MS} (h : TWO x y) {i : Int} (hi : 0 ≤ i) (hi6 : i + 6 ≤ L) (k : ∀ x' y' : MS, TWO x' y' → JX p l e room_1 s m args below meth c 4 G A 59 1028 Q (wsX G a x' ++ wsM G b y') 1211 [(3, vI i), (2, .ref (b 0)), (1, .ref (a 0)), (0, .ref b0)] []) : JX p l e room_1 s m args below meth c 4 G A 59 1028 Q (wsX G a x ++ wsM G b y) 785 [(3, vI i), (2, .ref (b 0)), (1, .ref (a 0)), (0, .ref b0)] [] := by
  refine jx_sw ?_
  refine jx_aload_n E 2 dL_law_785 rfl ?_
  refine jx_aload_n E 3 dL_law_786 rfl ?_
  refine jx_iload_n E 0 dL_law_787 rfl ?_
  refine jx_iconst E dL_law_788 ?_
  refine jx_iadd E dL_law_789 ?_
  refine jx_sld E hX hbl hbA dL_law_790 ?_
  refine jx_partE E [vI (sc xs (i + 1))] [] (c_X5_rule l G a x (n := (sc xs (i + 1))) h.vx (sc_inR _ _)) mb_X5_rule mv_X5_rule wl_L_101 f_X5 wx_obj dL_law_791 (fun u9 => ?_)
  refine jx_sw ?_
  refine jx_aload_n E 1 dL_law_794 rfl ?_
  refine jx_aload_n E 3 dL_law_795 rfl ?_
  refine jx_iload_n E 0 dL_law_796 rfl ?_
  refine jx_iconst E dL_law_797 ?_
  refine jx_iadd E dL_law_798 ?_
  refine jx_sld E hX hbl hbA dL_law_799 ?_
  refine jx_partI E [vI (sc xs (i + 1))] [_] (c_X6_rule l G b y (n := (sc xs (i + 1))) h.v (sc_inR _ _)) mb_X6_rule mv_X6_rule wl_L_104 f_X6 wm_obj dL_law_800 ?_
  have heq := (q_rule h.e h.v (sc xs (i + 1)))
  refine jx_same (tgt := 1211) E heq dL_law_803 (by decide) ?_
  exact k _ _ (k_think h heq (_) u9)
set_option maxHeartbeats 2000000 in
theorem law_22 {p : Program} {l : Launch} {e : Env} {s : State} {m : MethodId} {args : Array Value} {below : List Frame} {meth : Method} {c : Code} {G : GT} {A : Nat → Prop} {Q : State → Prop} (E : CT p s m args meth c 4 G A code RL) {b0 L : Nat} {xs : Nat → Int32} (hX : va_X b0 L xs s s.heap) (hbl : b0 < s.heap.size) (hbA : ¬ A b0) (hL : L ≤ 3072) {a b : Nat → Nat} {x y : MS} (h : TWO x y) {i : Int} (hi : 0 ≤ i) (hi6 : i + 6 ≤ L) (k : ∀ x' y' : MS, TWO x' y' → JX p l e room_1 s m args below meth c 4 G A 59 1028 Q (wsX G a x' ++ wsM G b y') 1211 [(3, vI i), (2, .ref (b 0)), (1, .ref (a 0)), (0, .ref b0)] []) : JX p l e room_1 s m args below meth c 4 G A 59 1028 Q (wsX G a x ++ wsM G b y) 808 [(3, vI i), (2, .ref (b 0)), (1, .ref (a 0)), (0, .ref b0)] [] := by
  refine jx_sw ?_
  refine jx_aload_n E 2 dL_law_808 rfl ?_
  refine jx_aload_n E 3 dL_law_809 rfl ?_
  refine jx_iload_n E 0 dL_law_810 rfl ?_
  refine jx_iconst E dL_law_811 ?_
  refine jx_iadd E dL_law_812 ?_
  refine jx_sld E hX hbl hbA dL_law_813 ?_
  refine jx_aload_n E 3 dL_law_814 rfl ?_
  refine jx_iload_n E 0 dL_law_815 rfl ?_
  refine jx_iconst E dL_law_816 ?_
  refine jx_iadd E dL_law_817 ?_
  refine jx_sld E hX hbl hbA dL_law_818 ?_
  refine jx_partI E [vI (sc xs (i + 1)), vI (sc xs (i + 2))] [] (c_X5_feed l G a x (v := (sc xs (i + 1))) (n := (sc xs (i + 2))) (sc_inR _ _) (sc_inR _ _) (by rw [h.2.2.2.1.2]; exact h.2.2.2.2.1.1)) mb_X5_feed mv_X5_feed wl_L_105 f_X5 wx_obj dL_law_819 ?_
  refine jx_sw ?_
  refine jx_aload_n E 1 dL_law_822 rfl ?_
  refine jx_aload_n E 3 dL_law_823 rfl ?_
  refine jx_iload_n E 0 dL_law_824 rfl ?_
  refine jx_iconst E dL_law_825 ?_
  refine jx_iadd E dL_law_826 ?_
  refine jx_sld E hX hbl hbA dL_law_827 ?_
  refine jx_aload_n E 3 dL_law_828 rfl ?_
  refine jx_iload_n E 0 dL_law_829 rfl ?_
  refine jx_iconst E dL_law_830 ?_
  refine jx_iadd E dL_law_831 ?_
  refine jx_sld E hX hbl hbA dL_law_832 ?_
  refine jx_partI E [vI (sc xs (i + 1)), vI (sc xs (i + 2))] [_] (c_X6_feed l G b y (v := (sc xs (i + 1))) (n := (sc xs (i + 2))) h.v h.vs (sc_inR _ _) (sc_inR _ _) h.2.2.2.2.1.1) mb_X6_feed mv_X6_feed wl_L_108 f_X6 wm_obj dL_law_833 ?_
  have heq := (k_feed h (sc xs (i + 1)) (sc xs (i + 2))).1
  refine jx_same (tgt := 1211) E heq dL_law_836 (by decide) ?_
  exact k _ _ (k_feed h (sc xs (i + 1)) (sc xs (i + 2))).2
set_option maxHeartbeats 2000000 in
theorem law_23 {p : Program} {l : Launch} {e : Env} {s : State} {m : MethodId} {args : Array Value} {below : List Frame} {meth : Method} {c : Code} {G : GT} {A : Nat → Prop} {Q : State → Prop} (E : CT p s m args meth c 4 G A code RL) {b0 L : Nat} {xs : Nat → Int32} (hX : va_X b0 L xs s s.heap) (hbl : b0 < s.heap.size) (hbA : ¬ A b0) (hL : L ≤ 3072) {a b : Nat → Nat} {x y : MS} (h : TWO x y) {i : Int} (hi : 0 ≤ i) (hi6 : i + 6 ≤ L) (k : ∀ x' y' : MS, TWO x' y' → JX p l e room_1 s m args below meth c 4 G A 59 1028 Q (wsX G a x' ++ wsM G b y') 1211 [(3, vI i), (2, .ref (b 0)), (1, .ref (a 0)), (0, .ref b0)] []) : JX p l e room_1 s m args below meth c 4 G A 59 1028 Q (wsX G a x ++ wsM G b y) 841 [(3, vI i), (2, .ref (b 0)), (1, .ref (a 0)), (0, .ref b0)] [] := by
  refine jx_sw ?_
  refine jx_aload_n E 2 dL_law_841 rfl ?_
  refine jx_partI E [] [] (c_X5_wipe l G a x  ) mb_X5_wipe mv_X5_wipe wl_L_109 f_X5 wx_obj dL_law_842 ?_
  refine jx_sw ?_
  refine jx_aload_n E 1 dL_law_845 rfl ?_
  refine jx_partI E [] [_] (c_X6_wipe l G b y  ) mb_X6_wipe mv_X6_wipe wl_L_112 f_X6 wm_obj dL_law_846 ?_
  have heq := (k_wipe h).1
  refine jx_same (tgt := 1211) E heq dL_law_849 (by decide) ?_
  exact k _ _ (k_wipe h).2
set_option maxHeartbeats 2000000 in
theorem law_24 {p : Program} {l : Launch} {e : Env} {s : State} {m : MethodId} {args : Array Value} {below : List Frame} {meth : Method} {c : Code} {G : GT} {A : Nat → Prop} {Q : State → Prop} (E : CT p s m args meth c 4 G A code RL) {b0 L : Nat} {xs : Nat → Int32} (hX : va_X b0 L xs s s.heap) (hbl : b0 < s.heap.size) (hbA : ¬ A b0) (hL : L ≤ 3072) {a b : Nat → Nat} {x y : MS} (h : TWO x y) {i : Int} (hi : 0 ≤ i) (hi6 : i + 6 ≤ L) (k : ∀ x' y' : MS, TWO x' y' → JX p l e room_1 s m args below meth c 4 G A 59 1028 Q (wsX G a x' ++ wsM G b y') 1211 [(3, vI i), (2, .ref (b 0)), (1, .ref (a 0)), (0, .ref b0)] []) : JX p l e room_1 s m args below meth c 4 G A 59 1028 Q (wsX G a x ++ wsM G b y) 854 [(3, vI i), (2, .ref (b 0)), (1, .ref (a 0)), (0, .ref b0)] [] := by
  refine jx_sw ?_
  refine jx_aload_n E 2 dL_law_854 rfl ?_
  refine jx_partI E [] [] (c_X5_town l G a x  (by rw [h.e.f4]; exact h.e.1) h.tg) mb_X5_town mv_X5_town wl_L_113 f_X5 wx_obj dL_law_855 ?_
  refine jx_sw ?_
  refine jx_aload_n E 1 dL_law_858 rfl ?_
  refine jx_partI E [] [_] (c_X6_town l G b y  h.tgy h.e.1) mb_X6_town mv_X6_town wl_L_116 f_X6 wm_obj dL_law_859 ?_
  have heq := (k_town h).1
  refine jx_same (tgt := 1211) E heq dL_law_862 (by decide) ?_
  exact k _ _ (k_town h).2
set_option maxHeartbeats 2000000 in
theorem law_25 {p : Program} {l : Launch} {e : Env} {s : State} {m : MethodId} {args : Array Value} {below : List Frame} {meth : Method} {c : Code} {G : GT} {A : Nat → Prop} {Q : State → Prop} (E : CT p s m args meth c 4 G A code RL) {b0 L : Nat} {xs : Nat → Int32} (hX : va_X b0 L xs s s.heap) (hbl : b0 < s.heap.size) (hbA : ¬ A b0) (hL : L ≤ 3072) {a b : Nat → Nat} {x y : MS} (h : TWO x y) {i : Int} (hi : 0 ≤ i) (hi6 : i + 6 ≤ L) (k : ∀ x' y' : MS, TWO x' y' → JX p l e room_1 s m args below meth c 4 G A 59 1028 Q (wsX G a x' ++ wsM G b y') 1211 [(3, vI i), (2, .ref (b 0)), (1, .ref (a 0)), (0, .ref b0)] []) : JX p l e room_1 s m args below meth c 4 G A 59 1028 Q (wsX G a x ++ wsM G b y) 867 [(3, vI i), (2, .ref (b 0)), (1, .ref (a 0)), (0, .ref b0)] [] := by
  refine jx_sw ?_
  refine jx_aload_n E 2 dL_law_867 rfl ?_
  refine jx_aload_n E 3 dL_law_868 rfl ?_
  refine jx_iload_n E 0 dL_law_869 rfl ?_
  refine jx_iconst E dL_law_870 ?_
  refine jx_iadd E dL_law_871 ?_
  refine jx_sld E hX hbl hbA dL_law_872 ?_
  refine jx_aload_n E 3 dL_law_873 rfl ?_
  refine jx_iload_n E 0 dL_law_874 rfl ?_
  refine jx_iconst E dL_law_875 ?_
  refine jx_iadd E dL_law_876 ?_
  refine jx_sld E hX hbl hbA dL_law_877 ?_
  refine jx_aload_n E 3 dL_law_878 rfl ?_
  refine jx_iload_n E 0 dL_law_879 rfl ?_
  refine jx_iconst E dL_law_880 ?_
  refine jx_iadd E dL_law_881 ?_
  refine jx_sld E hX hbl hbA dL_law_882 ?_
  refine jx_partI E [vI (sc xs (i + 1)), vI (sc xs (i + 2)), vI (sc xs (i + 3))] [] (c_X5_sheet l G a x (sh := (sc xs (i + 1))) (q := (sc xs (i + 2))) (n := (sc xs (i + 3))) (sc_inR _ _) (sc_inR _ _) (sc_inR _ _)) mb_X5_sheet mv_X5_sheet wl_L_117 f_X5 wx_obj dL_law_883 ?_
  refine jx_sw ?_
  refine jx_aload_n E 1 dL_law_886 rfl ?_
  refine jx_aload_n E 3 dL_law_887 rfl ?_
  refine jx_iload_n E 0 dL_law_888 rfl ?_
  refine jx_iconst E dL_law_889 ?_
  refine jx_iadd E dL_law_890 ?_
  refine jx_sld E hX hbl hbA dL_law_891 ?_
  refine jx_aload_n E 3 dL_law_892 rfl ?_
  refine jx_iload_n E 0 dL_law_893 rfl ?_
  refine jx_iconst E dL_law_894 ?_
  refine jx_iadd E dL_law_895 ?_
  refine jx_sld E hX hbl hbA dL_law_896 ?_
  refine jx_aload_n E 3 dL_law_897 rfl ?_
  refine jx_iload_n E 0 dL_law_898 rfl ?_
  refine jx_iconst E dL_law_899 ?_
  refine jx_iadd E dL_law_900 ?_
  refine jx_sld E hX hbl hbA dL_law_901 ?_
  refine jx_partI E [vI (sc xs (i + 1)), vI (sc xs (i + 2)), vI (sc xs (i + 3))] [_] (c_X6_sheet l G b y (sh := (sc xs (i + 1))) (q := (sc xs (i + 2))) (n := (sc xs (i + 3))) h.v h.vs (sc_inR _ _) (sc_inR _ _) (sc_inR _ _)) mb_X6_sheet mv_X6_sheet wl_L_120 f_X6 wm_obj dL_law_902 ?_
  have heq := (Eq.refl (sheetR (sc xs (i + 1)) (sc xs (i + 2)) (sc xs (i + 3))))
  refine jx_same (tgt := 1211) E heq dL_law_905 (by decide) ?_
  exact k _ _ (k_sheet h (sc xs (i + 1)) (sc xs (i + 2)) (sc xs (i + 3)))
set_option maxHeartbeats 2000000 in
theorem law_26 {p : Program} {l : Launch} {e : Env} {s : State} {m : MethodId} {args : Array Value} {below : List Frame} {meth : Method} {c : Code} {G : GT} {A : Nat → Prop} {Q : State → Prop} (E : CT p s m args meth c 4 G A code RL) {b0 L : Nat} {xs : Nat → Int32} (hX : va_X b0 L xs s s.heap) (hbl : b0 < s.heap.size) (hbA : ¬ A b0) (hL : L ≤ 3072) {a b : Nat → Nat} {x y : MS} (h : TWO x y) {i : Int} (hi : 0 ≤ i) (hi6 : i + 6 ≤ L) (k : ∀ x' y' : MS, TWO x' y' → JX p l e room_1 s m args below meth c 4 G A 59 1028 Q (wsX G a x' ++ wsM G b y') 1211 [(3, vI i), (2, .ref (b 0)), (1, .ref (a 0)), (0, .ref b0)] []) : JX p l e room_1 s m args below meth c 4 G A 59 1028 Q (wsX G a x ++ wsM G b y) 910 [(3, vI i), (2, .ref (b 0)), (1, .ref (a 0)), (0, .ref b0)] [] := by
  refine jx_sw ?_
  refine jx_aload_n E 2 dL_law_910 rfl ?_
  refine jx_aload_n E 3 dL_law_911 rfl ?_
  refine jx_iload_n E 0 dL_law_912 rfl ?_
  refine jx_iconst E dL_law_913 ?_
  refine jx_iadd E dL_law_914 ?_
  refine jx_sld E hX hbl hbA dL_law_915 ?_
  refine jx_aload_n E 3 dL_law_916 rfl ?_
  refine jx_iload_n E 0 dL_law_917 rfl ?_
  refine jx_iconst E dL_law_918 ?_
  refine jx_iadd E dL_law_919 ?_
  refine jx_sld E hX hbl hbA dL_law_920 ?_
  refine jx_aload_n E 3 dL_law_921 rfl ?_
  refine jx_iload_n E 0 dL_law_922 rfl ?_
  refine jx_iconst E dL_law_923 ?_
  refine jx_iadd E dL_law_924 ?_
  refine jx_sld E hX hbl hbA dL_law_925 ?_
  refine jx_i2l E dL_law_926 ?_ (sc_inR _ _)
  refine jx_bipush E dL_law_927 ?_
  refine jx_lshl E dL_law_929 ?_
  refine jx_aload_n E 3 dL_law_930 rfl ?_
  refine jx_iload_n E 0 dL_law_931 rfl ?_
  refine jx_iconst E dL_law_932 ?_
  refine jx_iadd E dL_law_933 ?_
  refine jx_sld E hX hbl hbA dL_law_934 ?_
  refine jx_i2l E dL_law_935 ?_ (sc_inR _ _)
  refine jx_ldc2 E wc_L_121 dL_law_936 ?_
  refine jx_land E dL_law_939 ?_
  refine jx_lor E dL_law_940 ?_
  refine jx_partL E [vI (sc xs (i + 1)), vI (sc xs (i + 2)), vL (lI (lI (sc xs (i + 3)) <<< ((iI 32).toInt64 &&& 63)).toInt ||| lI (lI (sc xs (i + 4)) &&& lI 4294967295).toInt).toInt] [] (c_X5_write l G a x (sh := (sc xs (i + 1))) (i := (sc xs (i + 2))) (v := (lI (lI (sc xs (i + 3)) <<< ((iI 32).toInt64 &&& 63)).toInt ||| lI (lI (sc xs (i + 4)) &&& lI 4294967295).toInt).toInt) h.vsx (sc_inR _ _) (sc_inR _ _) (lI_inL _)) mb_X5_write mv_X5_write wl_L_123 f_X5 wx_obj dL_law_941 ?_
  refine jx_sw ?_
  refine jx_aload_n E 1 dL_law_944 rfl ?_
  refine jx_aload_n E 3 dL_law_945 rfl ?_
  refine jx_iload_n E 0 dL_law_946 rfl ?_
  refine jx_iconst E dL_law_947 ?_
  refine jx_iadd E dL_law_948 ?_
  refine jx_sld E hX hbl hbA dL_law_949 ?_
  refine jx_aload_n E 3 dL_law_950 rfl ?_
  refine jx_iload_n E 0 dL_law_951 rfl ?_
  refine jx_iconst E dL_law_952 ?_
  refine jx_iadd E dL_law_953 ?_
  refine jx_sld E hX hbl hbA dL_law_954 ?_
  refine jx_aload_n E 3 dL_law_955 rfl ?_
  refine jx_iload_n E 0 dL_law_956 rfl ?_
  refine jx_iconst E dL_law_957 ?_
  refine jx_iadd E dL_law_958 ?_
  refine jx_sld E hX hbl hbA dL_law_959 ?_
  refine jx_i2l E dL_law_960 ?_ (sc_inR _ _)
  refine jx_bipush E dL_law_961 ?_
  refine jx_lshl E dL_law_963 ?_
  refine jx_aload_n E 3 dL_law_964 rfl ?_
  refine jx_iload_n E 0 dL_law_965 rfl ?_
  refine jx_iconst E dL_law_966 ?_
  refine jx_iadd E dL_law_967 ?_
  refine jx_sld E hX hbl hbA dL_law_968 ?_
  refine jx_i2l E dL_law_969 ?_ (sc_inR _ _)
  refine jx_ldc2 E wc_L_121 dL_law_970 ?_
  refine jx_land E dL_law_973 ?_
  refine jx_lor E dL_law_974 ?_
  refine jx_partL E [vI (sc xs (i + 1)), vI (sc xs (i + 2)), vL (lI (lI (sc xs (i + 3)) <<< ((iI 32).toInt64 &&& 63)).toInt ||| lI (lI (sc xs (i + 4)) &&& lI 4294967295).toInt).toInt] [_] (c_X6_write l G b y (sh := (sc xs (i + 1))) (i := (sc xs (i + 2))) (v := (lI (lI (sc xs (i + 3)) <<< ((iI 32).toInt64 &&& 63)).toInt ||| lI (lI (sc xs (i + 4)) &&& lI 4294967295).toInt).toInt) h.v h.vs (sc_inR _ _) (sc_inR _ _) (lI_inL _)) mb_X6_write mv_X6_write wl_L_127 f_X6 wm_obj dL_law_975 ?_
  have heq := k_write h (sh := (sc xs (i + 1))) (i := (sc xs (i + 2))) (v := (lI (lI (sc xs (i + 3)) <<< ((iI 32).toInt64 &&& 63)).toInt ||| lI (lI (sc xs (i + 4)) &&& lI 4294967295).toInt).toInt) (lI_inL _)
  have hin := wr_inL h (sc xs (i + 1)) (sc xs (i + 2))
  refine jx_lcmp_eq (tgt := 1211) E dL_law_978 dL_law_979 (by decide) (fun _ => ?_) (fun z => absurd heq.1 z) (by rw [heq.1]; exact hin) hin
  exact k _ _ heq.2
set_option maxHeartbeats 2000000 in
theorem law_27 {p : Program} {l : Launch} {e : Env} {s : State} {m : MethodId} {args : Array Value} {below : List Frame} {meth : Method} {c : Code} {G : GT} {A : Nat → Prop} {Q : State → Prop} (E : CT p s m args meth c 4 G A code RL) {b0 L : Nat} {xs : Nat → Int32} (hX : va_X b0 L xs s s.heap) (hbl : b0 < s.heap.size) (hbA : ¬ A b0) (hL : L ≤ 3072) {a b : Nat → Nat} {x y : MS} (h : TWO x y) {i : Int} (hi : 0 ≤ i) (hi6 : i + 6 ≤ L) (k : ∀ x' y' : MS, TWO x' y' → JX p l e room_1 s m args below meth c 4 G A 59 1028 Q (wsX G a x' ++ wsM G b y') 1211 [(3, vI i), (2, .ref (b 0)), (1, .ref (a 0)), (0, .ref b0)] []) : JX p l e room_1 s m args below meth c 4 G A 59 1028 Q (wsX G a x ++ wsM G b y) 984 [(3, vI i), (2, .ref (b 0)), (1, .ref (a 0)), (0, .ref b0)] [] := by
  refine jx_sw ?_
  refine jx_aload_n E 2 dL_law_984 rfl ?_
  refine jx_aload_n E 3 dL_law_985 rfl ?_
  refine jx_iload_n E 0 dL_law_986 rfl ?_
  refine jx_iconst E dL_law_987 ?_
  refine jx_iadd E dL_law_988 ?_
  refine jx_sld E hX hbl hbA dL_law_989 ?_
  refine jx_aload_n E 3 dL_law_990 rfl ?_
  refine jx_iload_n E 0 dL_law_991 rfl ?_
  refine jx_iconst E dL_law_992 ?_
  refine jx_iadd E dL_law_993 ?_
  refine jx_sld E hX hbl hbA dL_law_994 ?_
  refine jx_aload_n E 3 dL_law_995 rfl ?_
  refine jx_iload_n E 0 dL_law_996 rfl ?_
  refine jx_iconst E dL_law_997 ?_
  refine jx_iadd E dL_law_998 ?_
  refine jx_sld E hX hbl hbA dL_law_999 ?_
  refine jx_aload_n E 3 dL_law_1000 rfl ?_
  refine jx_iload_n E 0 dL_law_1001 rfl ?_
  refine jx_iconst E dL_law_1002 ?_
  refine jx_iadd E dL_law_1003 ?_
  refine jx_sld E hX hbl hbA dL_law_1004 ?_
  refine jx_aload_n E 3 dL_law_1005 rfl ?_
  refine jx_iload_n E 0 dL_law_1006 rfl ?_
  refine jx_iconst E dL_law_1007 ?_
  refine jx_iadd E dL_law_1008 ?_
  refine jx_sld E hX hbl hbA dL_law_1009 ?_
  refine jx_partI E [vI (sc xs (i + 1)), vI (sc xs (i + 2)), vI (sc xs (i + 3)), vI (sc xs (i + 4)), vI (sc xs (i + 5))] [] (c_X5_copy l G a x (sh := (sc xs (i + 1))) (f := (sc xs (i + 2))) (th := (sc xs (i + 3))) (g := (sc xs (i + 4))) (n := (sc xs (i + 5))) h.vsx (sc_inR _ _) (sc_inR _ _) (sc_inR _ _) (sc_inR _ _) (sc_inR _ _)) mb_X5_copy mv_X5_copy wl_L_128 f_X5 wx_obj dL_law_1010 ?_
  refine jx_sw ?_
  refine jx_aload_n E 1 dL_law_1013 rfl ?_
  refine jx_aload_n E 3 dL_law_1014 rfl ?_
  refine jx_iload_n E 0 dL_law_1015 rfl ?_
  refine jx_iconst E dL_law_1016 ?_
  refine jx_iadd E dL_law_1017 ?_
  refine jx_sld E hX hbl hbA dL_law_1018 ?_
  refine jx_aload_n E 3 dL_law_1019 rfl ?_
  refine jx_iload_n E 0 dL_law_1020 rfl ?_
  refine jx_iconst E dL_law_1021 ?_
  refine jx_iadd E dL_law_1022 ?_
  refine jx_sld E hX hbl hbA dL_law_1023 ?_
  refine jx_aload_n E 3 dL_law_1024 rfl ?_
  refine jx_iload_n E 0 dL_law_1025 rfl ?_
  refine jx_iconst E dL_law_1026 ?_
  refine jx_iadd E dL_law_1027 ?_
  refine jx_sld E hX hbl hbA dL_law_1028 ?_
  refine jx_aload_n E 3 dL_law_1029 rfl ?_
  refine jx_iload_n E 0 dL_law_1030 rfl ?_
  refine jx_iconst E dL_law_1031 ?_
  refine jx_iadd E dL_law_1032 ?_
  refine jx_sld E hX hbl hbA dL_law_1033 ?_
  refine jx_aload_n E 3 dL_law_1034 rfl ?_
  refine jx_iload_n E 0 dL_law_1035 rfl ?_
  refine jx_iconst E dL_law_1036 ?_
  refine jx_iadd E dL_law_1037 ?_
  refine jx_sld E hX hbl hbA dL_law_1038 ?_
  refine jx_partI E [vI (sc xs (i + 1)), vI (sc xs (i + 2)), vI (sc xs (i + 3)), vI (sc xs (i + 4)), vI (sc xs (i + 5))] [_] (c_X6_copy l G b y (sh := (sc xs (i + 1))) (f := (sc xs (i + 2))) (th := (sc xs (i + 3))) (g := (sc xs (i + 4))) (n := (sc xs (i + 5))) h.v h.vs (sc_inR _ _) (sc_inR _ _) (sc_inR _ _) (sc_inR _ _) (sc_inR _ _)) mb_X6_copy mv_X6_copy wl_L_132 f_X6 wm_obj dL_law_1039 ?_
  have heq := (k_copy h (sc xs (i + 1)) (sc xs (i + 2)) (sc xs (i + 3)) (sc xs (i + 4)) (sc xs (i + 5))).1
  refine jx_same (tgt := 1211) E heq dL_law_1042 (by decide) ?_
  exact k _ _ (k_copy h (sc xs (i + 1)) (sc xs (i + 2)) (sc xs (i + 3)) (sc xs (i + 4)) (sc xs (i + 5))).2
set_option maxHeartbeats 2000000 in
theorem law_28 {p : Program} {l : Launch} {e : Env} {s : State} {m : MethodId} {args : Array Value} {below : List Frame} {meth : Method} {c : Code} {G : GT} {A : Nat → Prop} {Q : State → Prop} (E : CT p s m args meth c 4 G A code RL) {b0 L : Nat} {xs : Nat → Int32} (hX : va_X b0 L xs s s.heap) (hbl : b0 < s.heap.size) (hbA : ¬ A b0) (hL : L ≤ 3072) {a b : Nat → Nat} {x y : MS} (h : TWO x y) {i : Int} (hi : 0 ≤ i) (hi6 : i + 6 ≤ L) (k : ∀ x' y' : MS, TWO x' y' → JX p l e room_1 s m args below meth c 4 G A 59 1028 Q (wsX G a x' ++ wsM G b y') 1211 [(3, vI i), (2, .ref (b 0)), (1, .ref (a 0)), (0, .ref b0)] []) : JX p l e room_1 s m args below meth c 4 G A 59 1028 Q (wsX G a x ++ wsM G b y) 1047 [(3, vI i), (2, .ref (b 0)), (1, .ref (a 0)), (0, .ref b0)] [] := by
  refine jx_sw ?_
  refine jx_aload_n E 2 dL_law_1047 rfl ?_
  refine jx_aload_n E 3 dL_law_1048 rfl ?_
  refine jx_iload_n E 0 dL_law_1049 rfl ?_
  refine jx_iconst E dL_law_1050 ?_
  refine jx_iadd E dL_law_1051 ?_
  refine jx_sld E hX hbl hbA dL_law_1052 ?_
  refine jx_partI E [vI (sc xs (i + 1))] [] (c_X5_lays l G a x (sh := (sc xs (i + 1))) h.vx h.vsx (sc_inR _ _)) mb_X5_lays mv_X5_lays wl_L_133 f_X5 wx_obj dL_law_1053 ?_
  refine jx_sw ?_
  refine jx_aload_n E 1 dL_law_1056 rfl ?_
  refine jx_aload_n E 3 dL_law_1057 rfl ?_
  refine jx_iload_n E 0 dL_law_1058 rfl ?_
  refine jx_iconst E dL_law_1059 ?_
  refine jx_iadd E dL_law_1060 ?_
  refine jx_sld E hX hbl hbA dL_law_1061 ?_
  refine jx_partI E [vI (sc xs (i + 1))] [_] (c_X6_lays l G b y (sh := (sc xs (i + 1))) h.v h.vs (sc_inR _ _)) mb_X6_lays mv_X6_lays wl_L_136 f_X6 wm_obj dL_law_1062 ?_
  have heq := (k_lays h (sc xs (i + 1))).1
  refine jx_same (tgt := 1211) E heq dL_law_1065 (by decide) ?_
  exact k _ _ (k_lays h (sc xs (i + 1))).2
set_option maxHeartbeats 2000000 in
theorem law_29 {p : Program} {l : Launch} {e : Env} {s : State} {m : MethodId} {args : Array Value} {below : List Frame} {meth : Method} {c : Code} {G : GT} {A : Nat → Prop} {Q : State → Prop} (E : CT p s m args meth c 4 G A code RL) {b0 L : Nat} {xs : Nat → Int32} (hX : va_X b0 L xs s s.heap) (hbl : b0 < s.heap.size) (hbA : ¬ A b0) (hL : L ≤ 3072) {a b : Nat → Nat} {x y : MS} (h : TWO x y) {i : Int} (hi : 0 ≤ i) (hi6 : i + 6 ≤ L) (k : ∀ x' y' : MS, TWO x' y' → JX p l e room_1 s m args below meth c 4 G A 59 1028 Q (wsX G a x' ++ wsM G b y') 1211 [(3, vI i), (2, .ref (b 0)), (1, .ref (a 0)), (0, .ref b0)] []) : JX p l e room_1 s m args below meth c 4 G A 59 1028 Q (wsX G a x ++ wsM G b y) 1070 [(3, vI i), (2, .ref (b 0)), (1, .ref (a 0)), (0, .ref b0)] [] := by
  refine jx_sw ?_
  refine jx_aload_n E 2 dL_law_1070 rfl ?_
  refine jx_aload_n E 3 dL_law_1071 rfl ?_
  refine jx_iload_n E 0 dL_law_1072 rfl ?_
  refine jx_iconst E dL_law_1073 ?_
  refine jx_iadd E dL_law_1074 ?_
  refine jx_sld E hX hbl hbA dL_law_1075 ?_
  refine jx_partE E [vI (sc xs (i + 1))] [] (c_X5_book l G a x (sh := (sc xs (i + 1))) h.vx h.vsx (sc_inR _ _)) mb_X5_book mv_X5_book wl_L_137 f_X5 wx_obj dL_law_1076 (fun u9 => ?_)
  refine jx_sw ?_
  refine jx_aload_n E 1 dL_law_1079 rfl ?_
  refine jx_aload_n E 3 dL_law_1080 rfl ?_
  refine jx_iload_n E 0 dL_law_1081 rfl ?_
  refine jx_iconst E dL_law_1082 ?_
  refine jx_iadd E dL_law_1083 ?_
  refine jx_sld E hX hbl hbA dL_law_1084 ?_
  refine jx_partI E [vI (sc xs (i + 1))] [_] (c_X6_book l G b y (sh := (sc xs (i + 1))) h.v h.vs (sc_inR _ _)) mb_X6_book mv_X6_book wl_L_140 f_X6 wm_obj dL_law_1085 ?_
  have heq := (k_book h (sc xs (i + 1)) u9).1
  refine jx_same (tgt := 1211) E heq dL_law_1088 (by decide) ?_
  exact k _ _ (k_book h (sc xs (i + 1)) u9).2
set_option maxHeartbeats 2000000 in
theorem law_30 {p : Program} {l : Launch} {e : Env} {s : State} {m : MethodId} {args : Array Value} {below : List Frame} {meth : Method} {c : Code} {G : GT} {A : Nat → Prop} {Q : State → Prop} (E : CT p s m args meth c 4 G A code RL) {b0 L : Nat} {xs : Nat → Int32} (hX : va_X b0 L xs s s.heap) (hbl : b0 < s.heap.size) (hbA : ¬ A b0) (hL : L ≤ 3072) {a b : Nat → Nat} {x y : MS} (h : TWO x y) {i : Int} (hi : 0 ≤ i) (hi6 : i + 6 ≤ L) (k : ∀ x' y' : MS, TWO x' y' → JX p l e room_1 s m args below meth c 4 G A 59 1028 Q (wsX G a x' ++ wsM G b y') 1211 [(3, vI i), (2, .ref (b 0)), (1, .ref (a 0)), (0, .ref b0)] []) : JX p l e room_1 s m args below meth c 4 G A 59 1028 Q (wsX G a x ++ wsM G b y) 1093 [(3, vI i), (2, .ref (b 0)), (1, .ref (a 0)), (0, .ref b0)] [] := by
  refine jx_sw ?_
  refine jx_aload_n E 2 dL_law_1093 rfl ?_
  refine jx_aload_n E 3 dL_law_1094 rfl ?_
  refine jx_iload_n E 0 dL_law_1095 rfl ?_
  refine jx_iconst E dL_law_1096 ?_
  refine jx_iadd E dL_law_1097 ?_
  refine jx_sld E hX hbl hbA dL_law_1098 ?_
  refine jx_aload_n E 3 dL_law_1099 rfl ?_
  refine jx_iload_n E 0 dL_law_1100 rfl ?_
  refine jx_iconst E dL_law_1101 ?_
  refine jx_iadd E dL_law_1102 ?_
  refine jx_sld E hX hbl hbA dL_law_1103 ?_
  refine jx_partE E [vI (sc xs (i + 1)), vI (sc xs (i + 2))] [] (c_X5_read l G a x (sh := (sc xs (i + 1))) (f := (sc xs (i + 2))) h.vx h.vsx (sc_inR _ _) (sc_inR _ _)) mb_X5_read mv_X5_read wl_L_141 f_X5 wx_obj dL_law_1104 (fun u9 => ?_)
  refine jx_sw ?_
  refine jx_aload_n E 1 dL_law_1107 rfl ?_
  refine jx_aload_n E 3 dL_law_1108 rfl ?_
  refine jx_iload_n E 0 dL_law_1109 rfl ?_
  refine jx_iconst E dL_law_1110 ?_
  refine jx_iadd E dL_law_1111 ?_
  refine jx_sld E hX hbl hbA dL_law_1112 ?_
  refine jx_aload_n E 3 dL_law_1113 rfl ?_
  refine jx_iload_n E 0 dL_law_1114 rfl ?_
  refine jx_iconst E dL_law_1115 ?_
  refine jx_iadd E dL_law_1116 ?_
  refine jx_sld E hX hbl hbA dL_law_1117 ?_
  refine jx_partI E [vI (sc xs (i + 1)), vI (sc xs (i + 2))] [_] (c_X6_read l G b y (sh := (sc xs (i + 1))) (f := (sc xs (i + 2))) h.v h.vs (sc_inR _ _) (sc_inR _ _)) mb_X6_read mv_X6_read wl_L_144 f_X6 wm_obj dL_law_1118 ?_
  have heq := (k_read h (sc xs (i + 1)) (sc xs (i + 2)))
  refine jx_same (tgt := 1211) E heq dL_law_1121 (by decide) ?_
  exact k _ _ (k_think h heq (_) u9)
set_option maxHeartbeats 2000000 in
theorem law_31 {p : Program} {l : Launch} {e : Env} {s : State} {m : MethodId} {args : Array Value} {below : List Frame} {meth : Method} {c : Code} {G : GT} {A : Nat → Prop} {Q : State → Prop} (E : CT p s m args meth c 4 G A code RL) {b0 L : Nat} {xs : Nat → Int32} (hX : va_X b0 L xs s s.heap) (hbl : b0 < s.heap.size) (hbA : ¬ A b0) (hL : L ≤ 3072) {a b : Nat → Nat} {x y : MS} (h : TWO x y) {i : Int} (hi : 0 ≤ i) (hi6 : i + 6 ≤ L) (k : ∀ x' y' : MS, TWO x' y' → JX p l e room_1 s m args below meth c 4 G A 59 1028 Q (wsX G a x' ++ wsM G b y') 1211 [(3, vI i), (2, .ref (b 0)), (1, .ref (a 0)), (0, .ref b0)] []) : JX p l e room_1 s m args below meth c 4 G A 59 1028 Q (wsX G a x ++ wsM G b y) 1126 [(3, vI i), (2, .ref (b 0)), (1, .ref (a 0)), (0, .ref b0)] [] := by
  refine jx_sw ?_
  refine jx_aload_n E 2 dL_law_1126 rfl ?_
  refine jx_partI E [] [] (c_X5_image l G a x  (by rw [h.e.f4]; exact h.e.1)) mb_X5_image mv_X5_image wl_L_145 f_X5 wx_obj dL_law_1127 ?_
  refine jx_sw ?_
  refine jx_aload_n E 1 dL_law_1130 rfl ?_
  refine jx_partI E [] [_] (c_X6_image l G b y  ) mb_X6_image mv_X6_image wl_L_148 f_X6 wm_obj dL_law_1131 ?_
  have heq := (Eq.refl (1 : Int))
  refine jx_same (tgt := 1211) E heq dL_law_1134 (by decide) ?_
  exact k _ _ (k_image h)
set_option maxHeartbeats 2000000 in
theorem law_32 {p : Program} {l : Launch} {e : Env} {s : State} {m : MethodId} {args : Array Value} {below : List Frame} {meth : Method} {c : Code} {G : GT} {A : Nat → Prop} {Q : State → Prop} (E : CT p s m args meth c 4 G A code RL) {b0 L : Nat} {xs : Nat → Int32} (hX : va_X b0 L xs s s.heap) (hbl : b0 < s.heap.size) (hbA : ¬ A b0) (hL : L ≤ 3072) {a b : Nat → Nat} {x y : MS} (h : TWO x y) {i : Int} (hi : 0 ≤ i) (hi6 : i + 6 ≤ L) (k : ∀ x' y' : MS, TWO x' y' → JX p l e room_1 s m args below meth c 4 G A 59 1028 Q (wsX G a x' ++ wsM G b y') 1211 [(3, vI i), (2, .ref (b 0)), (1, .ref (a 0)), (0, .ref b0)] []) : JX p l e room_1 s m args below meth c 4 G A 59 1028 Q (wsX G a x ++ wsM G b y) 1139 [(3, vI i), (2, .ref (b 0)), (1, .ref (a 0)), (0, .ref b0)] [] := by
  refine jx_sw ?_
  refine jx_aload_n E 2 dL_law_1139 rfl ?_
  refine jx_partI E [] [] (c_X5_undo l G a x  (by rw [h.2.1.1]; exact h.2.1.2) (by rw [h.2.1.1]; intro z; have q := (h.2.2.1 z).1; rw [q.f4]; exact q.1)) mb_X5_undo mv_X5_undo wl_L_149 f_X5 wx_obj dL_law_1140 ?_
  refine jx_sw ?_
  refine jx_aload_n E 1 dL_law_1143 rfl ?_
  refine jx_partI E [] [_] (c_X6_undo l G b y  h.2.1.2 (fun z => (h.2.2.1 z).1.1.1)) mb_X6_undo mv_X6_undo wl_L_152 f_X6 wm_obj dL_law_1144 ?_
  have heq := (k_undo h).1
  refine jx_same (tgt := 1211) E heq dL_law_1147 (by decide) ?_
  exact k _ _ (k_undo h).2
set_option maxHeartbeats 2000000 in
theorem law_33 {p : Program} {l : Launch} {e : Env} {s : State} {m : MethodId} {args : Array Value} {below : List Frame} {meth : Method} {c : Code} {G : GT} {A : Nat → Prop} {Q : State → Prop} (E : CT p s m args meth c 4 G A code RL) {b0 L : Nat} {xs : Nat → Int32} (hX : va_X b0 L xs s s.heap) (hbl : b0 < s.heap.size) (hbA : ¬ A b0) (hL : L ≤ 3072) {a b : Nat → Nat} {x y : MS} (h : TWO x y) {i : Int} (hi : 0 ≤ i) (hi6 : i + 6 ≤ L) (k : ∀ x' y' : MS, TWO x' y' → JX p l e room_1 s m args below meth c 4 G A 59 1028 Q (wsX G a x' ++ wsM G b y') 1211 [(3, vI i), (2, .ref (b 0)), (1, .ref (a 0)), (0, .ref b0)] []) : JX p l e room_1 s m args below meth c 4 G A 59 1028 Q (wsX G a x ++ wsM G b y) 1152 [(3, vI i), (2, .ref (b 0)), (1, .ref (a 0)), (0, .ref b0)] [] := by
  refine jx_sw ?_
  refine jx_aload_n E 2 dL_law_1152 rfl ?_
  refine jx_partI E [] [] (c_X5_tear l G a x  (by rw [h.2.1.1]; exact h.2.1.2)) mb_X5_tear mv_X5_tear wl_L_153 f_X5 wx_obj dL_law_1153 ?_
  refine jx_sw ?_
  refine jx_aload_n E 1 dL_law_1156 rfl ?_
  refine jx_partI E [] [_] (c_X6_tear l G b y  h.2.1.2) mb_X6_tear mv_X6_tear wl_L_156 f_X6 wm_obj dL_law_1157 ?_
  have heq := (k_tear h).1
  refine jx_same (tgt := 1211) E heq dL_law_1160 (by decide) ?_
  exact k _ _ (k_tear h).2
set_option maxHeartbeats 2000000 in
theorem law_34 {p : Program} {l : Launch} {e : Env} {s : State} {m : MethodId} {args : Array Value} {below : List Frame} {meth : Method} {c : Code} {G : GT} {A : Nat → Prop} {Q : State → Prop} (E : CT p s m args meth c 4 G A code RL) {b0 L : Nat} {xs : Nat → Int32} (hX : va_X b0 L xs s s.heap) (hbl : b0 < s.heap.size) (hbA : ¬ A b0) (hL : L ≤ 3072) {a b : Nat → Nat} {x y : MS} (h : TWO x y) {i : Int} (hi : 0 ≤ i) (hi6 : i + 6 ≤ L) (k : ∀ x' y' : MS, TWO x' y' → JX p l e room_1 s m args below meth c 4 G A 59 1028 Q (wsX G a x' ++ wsM G b y') 1211 [(3, vI i), (2, .ref (b 0)), (1, .ref (a 0)), (0, .ref b0)] []) : JX p l e room_1 s m args below meth c 4 G A 59 1028 Q (wsX G a x ++ wsM G b y) 1165 [(3, vI i), (2, .ref (b 0)), (1, .ref (a 0)), (0, .ref b0)] [] := by
  refine jx_sw ?_
  refine jx_aload_n E 2 dL_law_1165 rfl ?_
  refine jx_aload_n E 3 dL_law_1166 rfl ?_
  refine jx_iload_n E 0 dL_law_1167 rfl ?_
  refine jx_iconst E dL_law_1168 ?_
  refine jx_iadd E dL_law_1169 ?_
  refine jx_sld E hX hbl hbA dL_law_1170 ?_
  refine jx_partI E [vI (sc xs (i + 1))] [] (c_X5_count l G a x (w := (sc xs (i + 1))) h.vx (sc_inR _ _) (by rw [h.2.2.2.1.2]; exact h.2.2.2.2.1.1)) mb_X5_count mv_X5_count wl_L_157 f_X5 wx_obj dL_law_1171 ?_
  refine jx_sw ?_
  refine jx_aload_n E 1 dL_law_1174 rfl ?_
  refine jx_aload_n E 3 dL_law_1175 rfl ?_
  refine jx_iload_n E 0 dL_law_1176 rfl ?_
  refine jx_iconst E dL_law_1177 ?_
  refine jx_iadd E dL_law_1178 ?_
  refine jx_sld E hX hbl hbA dL_law_1179 ?_
  refine jx_partI E [vI (sc xs (i + 1))] [_] (c_X6_count l G b y (w := (sc xs (i + 1))) h.v (sc_inR _ _) h.2.2.2.2.1.1) mb_X6_count mv_X6_count wl_L_160 f_X6 wm_obj dL_law_1180 ?_
  have heq := (k_count h (sc xs (i + 1))).1
  refine jx_same (tgt := 1211) E heq dL_law_1183 (by decide) ?_
  exact k _ _ (k_count h (sc xs (i + 1))).2
set_option maxHeartbeats 2000000 in
theorem law_35 {p : Program} {l : Launch} {e : Env} {s : State} {m : MethodId} {args : Array Value} {below : List Frame} {meth : Method} {c : Code} {G : GT} {A : Nat → Prop} {Q : State → Prop} (E : CT p s m args meth c 4 G A code RL) {b0 L : Nat} {xs : Nat → Int32} (hX : va_X b0 L xs s s.heap) (hbl : b0 < s.heap.size) (hbA : ¬ A b0) (hL : L ≤ 3072) {a b : Nat → Nat} {x y : MS} (h : TWO x y) {i : Int} (hi : 0 ≤ i) (hi6 : i + 6 ≤ L) (k : ∀ x' y' : MS, TWO x' y' → JX p l e room_1 s m args below meth c 4 G A 59 1028 Q (wsX G a x' ++ wsM G b y') 1211 [(3, vI i), (2, .ref (b 0)), (1, .ref (a 0)), (0, .ref b0)] []) : JX p l e room_1 s m args below meth c 4 G A 59 1028 Q (wsX G a x ++ wsM G b y) 1188 [(3, vI i), (2, .ref (b 0)), (1, .ref (a 0)), (0, .ref b0)] [] := by
  refine jx_sw ?_
  refine jx_aload_n E 2 dL_law_1188 rfl ?_
  refine jx_aload_n E 3 dL_law_1189 rfl ?_
  refine jx_iload_n E 0 dL_law_1190 rfl ?_
  refine jx_iconst E dL_law_1191 ?_
  refine jx_iadd E dL_law_1192 ?_
  refine jx_sld E hX hbl hbA dL_law_1193 ?_
  refine jx_partI E [vI (sc xs (i + 1))] [] (c_X5_status l G a x (w := (sc xs (i + 1))) (sc_inR _ _)) mb_X5_status mv_X5_status wl_L_161 f_X5 wx_obj dL_law_1194 ?_
  refine jx_sw ?_
  refine jx_aload_n E 1 dL_law_1197 rfl ?_
  refine jx_aload_n E 3 dL_law_1198 rfl ?_
  refine jx_iload_n E 0 dL_law_1199 rfl ?_
  refine jx_iconst E dL_law_1200 ?_
  refine jx_iadd E dL_law_1201 ?_
  refine jx_sld E hX hbl hbA dL_law_1202 ?_
  refine jx_partI E [vI (sc xs (i + 1))] [_] (c_X6_status l G b y (w := (sc xs (i + 1))) (sc_inR _ _)) mb_X6_status mv_X6_status wl_L_164 f_X6 wm_obj dL_law_1203 ?_
  have heq := (k_status h (sc xs (i + 1))).1
  refine jx_same (tgt := 1211) E heq dL_law_1206 (by decide) ?_
  exact k _ _ (k_status h (sc xs (i + 1))).2
