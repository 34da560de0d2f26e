set_option maxHeartbeats 4000000 in
set_option maxRecDepth 100000 in
theorem lc_feed {p : Program} {l : Launch} {e : Env} {s : State} {m : MethodId} {below : List Frame} {meth : Method} {c : Code} {H : Heap} {locs : List Loc} {cells slots : Nat} {Q : State → Prop} {ls : Array Slot} {G : GT} {σ : SI} {τ : SL} {b L : Nat} {xs : Nat → Int32} {x4 : Int32} {g : Nat} (X : LX p s m b L xs meth c G) (J : INV g σ σ) (hg : g + 61 < 2 ^ 31) (I : IX G s H locs σ τ) (hl : lv_has ls 7 (LB G b x4)) (hv : LV x4 L) (hcs : cells ≤ 601024 ∧ slots ≤ 7293034)
    (kk : ∀ (H1 : Heap) (locs1 : List Loc) (σ1 : SI) (τ1 : SL), IX G s H1 locs1 σ1 τ1 → INV (g + 60) σ1 σ1 → W p l e room_1 s m #[Value.ref b] below meth c H1 locs1 cells slots Q (F0 m 1581 ls [])) : W p l e room_1 s m #[Value.ref b] below meth c H locs cells slots Q (F0 m 224 ls []) := by
  have F1 : ∀ a, 123 ≤ a → (f11_feed σ (sx xs x4 1) (sx xs x4 2) (sx xs x4 3) (sx xs x4 4) (sx xs x4 5)).2 a = σ a := fun a ha => w_f11_feed σ (sx xs x4 1) (sx xs x4 2) (sx xs x4 3) (sx xs x4 4) (sx xs x4 5) a (by omega) (by omega)
  have J1 := t_feed (br_1 J F1) (sx xs x4 1) (sx xs x4 2) (sx xs x4 3) (sx xs x4 4) (sx xs x4 5)
  refine lv_aload_n X.1.1 X.1.2.1 dL_law_224 rfl (lv_at hl 3 rfl) ?_
  refine l_arg (n := 1) (k := 1) X I hl (by decide) hv.1 dL_law_225 dL_law_226 dL_law_228 dL_law_229 dL_law_230 ?_
  refine l_arg (n := 2) (k := 2) X I hl (by decide) hv.2.1 dL_law_231 dL_law_232 dL_law_234 dL_law_235 dL_law_236 ?_
  refine l_arg (n := 3) (k := 3) X I hl (by decide) hv.2.2.1 dL_law_237 dL_law_238 dL_law_240 dL_law_241 dL_law_242 ?_
  refine l_arg (n := 4) (k := 4) X I hl (by decide) hv.2.2.2.1 dL_law_243 dL_law_244 dL_law_246 dL_law_247 dL_law_248 ?_
  refine l_arg (n := 5) (k := 5) X I hl (by decide) hv.2.2.2.2 dL_law_249 dL_law_250 dL_law_252 dL_law_253 dL_law_254 ?_
  refine r_ei I (r_runV X.1 I pk_X11_feed (c11_feed l G σ τ (sx xs x4 1) (sx xs x4 2) (sx xs x4 3) (sx xs x4 4) (sx xs x4 5)) lm_L_19 (by decide) (cl_11 rfl) rfl rfl rfl hl.1 rfl (Nat.le_of_ble_eq_true rfl) dL_law_255 ⟨Nat.le_of_ble_eq_true rfl, Nat.le_of_ble_eq_true rfl⟩ hcs) (fun H locs I => ?_)
  refine lv_aload_n X.1.1 X.1.2.1 dL_law_258 rfl (lv_at hl 2 rfl) ?_
  refine l_arg (n := 1) (k := 1) X I hl (by decide) hv.1 dL_law_259 dL_law_260 dL_law_262 dL_law_263 dL_law_264 ?_
  refine l_arg (n := 2) (k := 2) X I hl (by decide) hv.2.1 dL_law_265 dL_law_266 dL_law_268 dL_law_269 dL_law_270 ?_
  refine l_arg (n := 3) (k := 3) X I hl (by decide) hv.2.2.1 dL_law_271 dL_law_272 dL_law_274 dL_law_275 dL_law_276 ?_
  refine l_arg (n := 4) (k := 4) X I hl (by decide) hv.2.2.2.1 dL_law_277 dL_law_278 dL_law_280 dL_law_281 dL_law_282 ?_
  refine l_arg (n := 5) (k := 5) X I hl (by decide) hv.2.2.2.2 dL_law_283 dL_law_284 dL_law_286 dL_law_287 dL_law_288 ?_
  refine r_ei I (r_runV X.1 I pk_X12_feed (c12_feed l G (f11_feed σ (sx xs x4 1) (sx xs x4 2) (sx xs x4 3) (sx xs x4 4) (sx xs x4 5)).2 τ (sx xs x4 1) (sx xs x4 2) (sx xs x4 3) (sx xs x4 4) (sx xs x4 5) J1.2.1) lm_L_23 (by decide) (cl_12 rfl) rfl rfl rfl hl.1 rfl (Nat.le_of_ble_eq_true rfl) dL_law_289 ⟨Nat.le_of_ble_eq_true rfl, Nat.le_of_ble_eq_true rfl⟩ hcs) (fun H locs I => ?_)
  refine lv_icmp_eq (tgt := 1581) X.1.1 X.1.2.1 dL_law_292 (by decide) (fun _ => ?_) (fun q => absurd J1.1 q)
  exact kk H locs _ τ I (INV_up (br_2 J1.2.2 (fun a ha => w_f12_feed _ (sx xs x4 1) (sx xs x4 2) (sx xs x4 3) (sx xs x4 4) (sx xs x4 5) a (by omega) (by omega))) (by omega))
set_option maxHeartbeats 4000000 in
set_option maxRecDepth 100000 in
theorem lc_end {p : Program} {l : Launch} {e : Env} {s : State} {m : MethodId} {below : List Frame} {meth : Method} {c : Code} {H : Heap} {locs : List Loc} {cells slots : Nat} {Q : State → Prop} {ls : Array Slot} {G : GT} {σ : SI} {τ : SL} {b L : Nat} {xs : Nat → Int32} {x4 : Int32} {g : Nat} (X : LX p s m b L xs meth c G) (J : INV g σ σ) (hg : g + 61 < 2 ^ 31) (I : IX G s H locs σ τ) (hl : lv_has ls 7 (LB G b x4)) (hv : LV x4 L) (hcs : cells ≤ 601024 ∧ slots ≤ 7293034)
    (kk : ∀ (H1 : Heap) (locs1 : List Loc) (σ1 : SI) (τ1 : SL), IX G s H1 locs1 σ1 τ1 → INV (g + 60) σ1 σ1 → W p l e room_1 s m #[Value.ref b] below meth c H1 locs1 cells slots Q (F0 m 1581 ls [])) : W p l e room_1 s m #[Value.ref b] below meth c H locs cells slots Q (F0 m 297 ls []) := by
  have F1 : ∀ a, 123 ≤ a → (f11_end σ (sx xs x4 1)).2 a = σ a := fun a ha => w_f11_end σ (sx xs x4 1) a (by omega)
  have J1 := t_end (br_1 J F1) (sx xs x4 1)
  refine lv_aload_n X.1.1 X.1.2.1 dL_law_297 rfl (lv_at hl 3 rfl) ?_
  refine l_arg (n := 1) (k := 1) X I hl (by decide) hv.1 dL_law_298 dL_law_299 dL_law_301 dL_law_302 dL_law_303 ?_
  refine r_ei I (r_runV X.1 I pk_X11_end (c11_end l G σ τ (sx xs x4 1)) lm_L_24 (by decide) (cl_11 rfl) rfl rfl rfl hl.1 rfl (Nat.le_of_ble_eq_true rfl) dL_law_304 ⟨Nat.le_of_ble_eq_true rfl, Nat.le_of_ble_eq_true rfl⟩ hcs) (fun H locs I => ?_)
  refine lv_aload_n X.1.1 X.1.2.1 dL_law_307 rfl (lv_at hl 2 rfl) ?_
  refine l_arg (n := 1) (k := 1) X I hl (by decide) hv.1 dL_law_308 dL_law_309 dL_law_311 dL_law_312 dL_law_313 ?_
  refine r_ei I (r_runV X.1 I pk_X12_end (c12_end l G (f11_end σ (sx xs x4 1)).2 τ (sx xs x4 1)) lm_L_28 (by decide) (cl_12 rfl) rfl rfl rfl hl.1 rfl (Nat.le_of_ble_eq_true rfl) dL_law_314 ⟨Nat.le_of_ble_eq_true rfl, Nat.le_of_ble_eq_true rfl⟩ hcs) (fun H locs I => ?_)
  refine lv_icmp_eq (tgt := 1581) X.1.1 X.1.2.1 dL_law_317 (by decide) (fun _ => ?_) (fun q => absurd (congrArg b2i J1.1) q)
  exact kk H locs _ τ I (INV_up (br_2 J1.2.2 (fun a ha => w_f12_end _ (sx xs x4 1) a (by omega))) (by omega))
set_option maxHeartbeats 4000000 in
set_option maxRecDepth 100000 in
theorem lc_fault {p : Program} {l : Launch} {e : Env} {s : State} {m : MethodId} {below : List Frame} {meth : Method} {c : Code} {H : Heap} {locs : List Loc} {cells slots : Nat} {Q : State → Prop} {ls : Array Slot} {G : GT} {σ : SI} {τ : SL} {b L : Nat} {xs : Nat → Int32} {x4 : Int32} {g : Nat} (X : LX p s m b L xs meth c G) (J : INV g σ σ) (hg : g + 61 < 2 ^ 31) (I : IX G s H locs σ τ) (hl : lv_has ls 7 (LB G b x4)) (hv : LV x4 L) (hcs : cells ≤ 601024 ∧ slots ≤ 7293034)
    (kk : ∀ (H1 : Heap) (locs1 : List Loc) (σ1 : SI) (τ1 : SL), IX G s H1 locs1 σ1 τ1 → INV (g + 60) σ1 σ1 → W p l e room_1 s m #[Value.ref b] below meth c H1 locs1 cells slots Q (F0 m 1581 ls [])) : W p l e room_1 s m #[Value.ref b] below meth c H locs cells slots Q (F0 m 322 ls []) := by
  have F1 : ∀ a, 123 ≤ a → (f11_fault σ (sx xs x4 1)).2 a = σ a := fun a ha => w_f11_fault σ (sx xs x4 1) a (by omega) (by omega) (by omega) (by omega) (by omega)
  have J1 := t_fault (br_1 J F1) (sx xs x4 1)
  refine lv_aload_n X.1.1 X.1.2.1 dL_law_322 rfl (lv_at hl 3 rfl) ?_
  refine l_arg (n := 1) (k := 1) X I hl (by decide) hv.1 dL_law_323 dL_law_324 dL_law_326 dL_law_327 dL_law_328 ?_
  refine r_ei I (r_runV X.1 I pk_X11_fault (c11_fault l G σ τ (sx xs x4 1)) lm_L_29 (by decide) (cl_11 rfl) rfl rfl rfl hl.1 rfl (Nat.le_of_ble_eq_true rfl) dL_law_329 ⟨Nat.le_of_ble_eq_true rfl, Nat.le_of_ble_eq_true rfl⟩ hcs) (fun H locs I => ?_)
  refine lv_aload_n X.1.1 X.1.2.1 dL_law_332 rfl (lv_at hl 2 rfl) ?_
  refine l_arg (n := 1) (k := 1) X I hl (by decide) hv.1 dL_law_333 dL_law_334 dL_law_336 dL_law_337 dL_law_338 ?_
  refine r_ei I (r_runV X.1 I pk_X12_fault (c12_fault l G (f11_fault σ (sx xs x4 1)).2 τ (sx xs x4 1) J1.2.1) lm_L_33 (by decide) (cl_12 rfl) rfl rfl rfl hl.1 rfl (Nat.le_of_ble_eq_true rfl) dL_law_339 ⟨Nat.le_of_ble_eq_true rfl, Nat.le_of_ble_eq_true rfl⟩ hcs) (fun H locs I => ?_)
  refine lv_icmp_eq (tgt := 1581) X.1.1 X.1.2.1 dL_law_342 (by decide) (fun _ => ?_) (fun q => absurd J1.1 q)
  exact kk H locs _ τ I (INV_up (br_2 J1.2.2 (fun a ha => w_f12_fault _ (sx xs x4 1) a (by omega) (by omega) (by omega) (by omega) (by omega) (by omega) (by omega) (by omega) (by omega) (by omega) (by omega))) (by omega))
set_option maxHeartbeats 4000000 in
set_option maxRecDepth 100000 in
theorem lc_text {p : Program} {l : Launch} {e : Env} {s : State} {m : MethodId} {below : List Frame} {meth : Method} {c : Code} {H : Heap} {locs : List Loc} {cells slots : Nat} {Q : State → Prop} {ls : Array Slot} {G : GT} {σ : SI} {τ : SL} {b L : Nat} {xs : Nat → Int32} {x4 : Int32} {g : Nat} (X : LX p s m b L xs meth c G) (J : INV g σ σ) (hg : g + 61 < 2 ^ 31) (I : IX G s H locs σ τ) (hl : lv_has ls 7 (LB G b x4)) (hv : LV x4 L) (hcs : cells ≤ 601024 ∧ slots ≤ 7293034)
    (kk : ∀ (H1 : Heap) (locs1 : List Loc) (σ1 : SI) (τ1 : SL), IX G s H1 locs1 σ1 τ1 → INV (g + 60) σ1 σ1 → W p l e room_1 s m #[Value.ref b] below meth c H1 locs1 cells slots Q (F0 m 1581 ls [])) : W p l e room_1 s m #[Value.ref b] below meth c H locs cells slots Q (F0 m 347 ls []) := by
  have F1 : ∀ a, 123 ≤ a → (f11_text σ (sx xs x4 1)).2 a = σ a := fun a ha => w_f11_text σ (sx xs x4 1) a (by omega) (by omega) (by omega) (by omega) (by omega) (by omega) (by omega) (by omega) (by omega) (by omega) (by omega) (by omega) (by omega)
  have J1 := t_text (br_1 J F1) (sx xs x4 1)
  refine lv_aload_n X.1.1 X.1.2.1 dL_law_347 rfl (lv_at hl 3 rfl) ?_
  refine l_arg (n := 1) (k := 1) X I hl (by decide) hv.1 dL_law_348 dL_law_349 dL_law_351 dL_law_352 dL_law_353 ?_
  refine r_ei I (r_runV X.1 I pk_X11_text (c11_text l G σ τ (sx xs x4 1)) lm_L_34 (by decide) (cl_11 rfl) rfl rfl rfl hl.1 rfl (Nat.le_of_ble_eq_true rfl) dL_law_354 ⟨Nat.le_of_ble_eq_true rfl, Nat.le_of_ble_eq_true rfl⟩ hcs) (fun H locs I => ?_)
  refine lv_aload_n X.1.1 X.1.2.1 dL_law_357 rfl (lv_at hl 2 rfl) ?_
  refine l_arg (n := 1) (k := 1) X I hl (by decide) hv.1 dL_law_358 dL_law_359 dL_law_361 dL_law_362 dL_law_363 ?_
  refine r_ei I (r_runV X.1 I pk_X12_text (c12_text l G (f11_text σ (sx xs x4 1)).2 τ (sx xs x4 1) J1.2.1) lm_L_37 (by decide) (cl_12 rfl) rfl rfl rfl hl.1 rfl (Nat.le_of_ble_eq_true rfl) dL_law_364 ⟨Nat.le_of_ble_eq_true rfl, Nat.le_of_ble_eq_true rfl⟩ hcs) (fun H locs I => ?_)
  refine lv_icmp_eq (tgt := 1581) X.1.1 X.1.2.1 dL_law_367 (by decide) (fun _ => ?_) (fun q => absurd J1.1 q)
  exact kk H locs _ τ I (INV_up (br_2 J1.2.2 (fun a ha => w_f12_text _ (sx xs x4 1) a (by omega) (by omega) (by omega) (by omega) (by omega) (by omega) (by omega) (by omega) (by omega) (by omega) (by omega) (by omega) (by omega) (by omega) (by omega))) (by omega))
set_option maxHeartbeats 4000000 in
set_option maxRecDepth 100000 in
theorem lc_rule {p : Program} {l : Launch} {e : Env} {s : State} {m : MethodId} {below : List Frame} {meth : Method} {c : Code} {H : Heap} {locs : List Loc} {cells slots : Nat} {Q : State → Prop} {ls : Array Slot} {G : GT} {σ : SI} {τ : SL} {b L : Nat} {xs : Nat → Int32} {x4 : Int32} {g : Nat} (X : LX p s m b L xs meth c G) (J : INV g σ σ) (hg : g + 61 < 2 ^ 31) (I : IX G s H locs σ τ) (hl : lv_has ls 7 (LB G b x4)) (hv : LV x4 L) (hcs : cells ≤ 601024 ∧ slots ≤ 7293034)
    (kk : ∀ (H1 : Heap) (locs1 : List Loc) (σ1 : SI) (τ1 : SL), IX G s H1 locs1 σ1 τ1 → INV (g + 60) σ1 σ1 → W p l e room_1 s m #[Value.ref b] below meth c H1 locs1 cells slots Q (F0 m 1581 ls [])) : W p l e room_1 s m #[Value.ref b] below meth c H locs cells slots Q (F0 m 372 ls []) := by
  have J1 := t_rule J (sx xs x4 1)
  refine lv_aload_n X.1.1 X.1.2.1 dL_law_372 rfl (lv_at hl 3 rfl) ?_
  refine l_arg (n := 1) (k := 1) X I hl (by decide) hv.1 dL_law_373 dL_law_374 dL_law_376 dL_law_377 dL_law_378 ?_
  refine r_ei I (r_runV X.1 I pk_X11_rule (c11_rule l G σ τ (sx xs x4 1)) lm_L_38 (by decide) (cl_11 rfl) rfl rfl rfl hl.1 rfl (Nat.le_of_ble_eq_true rfl) dL_law_379 ⟨Nat.le_of_ble_eq_true rfl, Nat.le_of_ble_eq_true rfl⟩ hcs) (fun H locs I => ?_)
  refine lv_aload_n X.1.1 X.1.2.1 dL_law_382 rfl (lv_at hl 2 rfl) ?_
  refine l_arg (n := 1) (k := 1) X I hl (by decide) hv.1 dL_law_383 dL_law_384 dL_law_386 dL_law_387 dL_law_388 ?_
  refine r_ei I (r_runV X.1 I pk_X12_rule (c12_rule l G σ τ (sx xs x4 1) J1.2) lm_L_41 (by decide) (cl_12 rfl) rfl rfl rfl hl.1 rfl (Nat.le_of_ble_eq_true rfl) dL_law_389 ⟨Nat.le_of_ble_eq_true rfl, Nat.le_of_ble_eq_true rfl⟩ hcs) (fun H locs I => ?_)
  refine lv_icmp_eq (tgt := 1581) X.1.1 X.1.2.1 dL_law_392 (by decide) (fun _ => ?_) (fun q => absurd J1.1 q)
  exact kk H locs σ τ I (INV_up J (by omega))
set_option maxHeartbeats 4000000 in
set_option maxRecDepth 100000 in
theorem lc_bearer {p : Program} {l : Launch} {e : Env} {s : State} {m : MethodId} {below : List Frame} {meth : Method} {c : Code} {H : Heap} {locs : List Loc} {cells slots : Nat} {Q : State → Prop} {ls : Array Slot} {G : GT} {σ : SI} {τ : SL} {b L : Nat} {xs : Nat → Int32} {x4 : Int32} {g : Nat} (X : LX p s m b L xs meth c G) (J : INV g σ σ) (hg : g + 61 < 2 ^ 31) (I : IX G s H locs σ τ) (hl : lv_has ls 7 (LB G b x4)) (hv : LV x4 L) (hcs : cells ≤ 601024 ∧ slots ≤ 7293034)
    (kk : ∀ (H1 : Heap) (locs1 : List Loc) (σ1 : SI) (τ1 : SL), IX G s H1 locs1 σ1 τ1 → INV (g + 60) σ1 σ1 → W p l e room_1 s m #[Value.ref b] below meth c H1 locs1 cells slots Q (F0 m 1581 ls [])) : W p l e room_1 s m #[Value.ref b] below meth c H locs cells slots Q (F0 m 465 ls []) := by
  have J1 := t_bearer J (sx xs x4 1)
  refine lv_aload_n X.1.1 X.1.2.1 dL_law_465 rfl (lv_at hl 3 rfl) ?_
  refine l_arg (n := 1) (k := 1) X I hl (by decide) hv.1 dL_law_466 dL_law_467 dL_law_469 dL_law_470 dL_law_471 ?_
  refine r_ei I (r_runV X.1 I pk_X11_bearer (c11_bearer l G σ τ (sx xs x4 1)) lm_L_52 (by decide) (cl_11 rfl) rfl rfl rfl hl.1 rfl (Nat.le_of_ble_eq_true rfl) dL_law_472 ⟨Nat.le_of_ble_eq_true rfl, Nat.le_of_ble_eq_true rfl⟩ hcs) (fun H locs I => ?_)
  refine lv_aload_n X.1.1 X.1.2.1 dL_law_475 rfl (lv_at hl 2 rfl) ?_
  refine l_arg (n := 1) (k := 1) X I hl (by decide) hv.1 dL_law_476 dL_law_477 dL_law_479 dL_law_480 dL_law_481 ?_
  refine r_ei I (r_runV X.1 I pk_X12_bearer (c12_bearer l G σ τ (sx xs x4 1) J1.2) lm_L_55 (by decide) (cl_12 rfl) rfl rfl rfl hl.1 rfl (Nat.le_of_ble_eq_true rfl) dL_law_482 ⟨Nat.le_of_ble_eq_true rfl, Nat.le_of_ble_eq_true rfl⟩ hcs) (fun H locs I => ?_)
  refine lv_icmp_eq (tgt := 1581) X.1.1 X.1.2.1 dL_law_485 (by decide) (fun _ => ?_) (fun q => absurd J1.1 q)
  exact kk H locs σ τ I (INV_up J (by omega))
set_option maxHeartbeats 4000000 in
set_option maxRecDepth 100000 in
theorem lc_law {p : Program} {l : Launch} {e : Env} {s : State} {m : MethodId} {below : List Frame} {meth : Method} {c : Code} {H : Heap} {locs : List Loc} {cells slots : Nat} {Q : State → Prop} {ls : Array Slot} {G : GT} {σ : SI} {τ : SL} {b L : Nat} {xs : Nat → Int32} {x4 : Int32} {g : Nat} (X : LX p s m b L xs meth c G) (J : INV g σ σ) (hg : g + 61 < 2 ^ 31) (I : IX G s H locs σ τ) (hl : lv_has ls 7 (LB G b x4)) (hv : LV x4 L) (hcs : cells ≤ 601024 ∧ slots ≤ 7293034)
    (kk : ∀ (H1 : Heap) (locs1 : List Loc) (σ1 : SI) (τ1 : SL), IX G s H1 locs1 σ1 τ1 → INV (g + 60) σ1 σ1 → W p l e room_1 s m #[Value.ref b] below meth c H1 locs1 cells slots Q (F0 m 1581 ls [])) : W p l e room_1 s m #[Value.ref b] below meth c H locs cells slots Q (F0 m 490 ls []) := by
  have F1 : ∀ a, 123 ≤ a → (f11_law σ (sx xs x4 1)).2 a = σ a := fun a ha => w_f11_law σ (sx xs x4 1) a (by omega)
  have J1 := t_law (br_1 J F1) (sx xs x4 1)
  refine lv_aload_n X.1.1 X.1.2.1 dL_law_490 rfl (lv_at hl 3 rfl) ?_
  refine l_arg (n := 1) (k := 1) X I hl (by decide) hv.1 dL_law_491 dL_law_492 dL_law_494 dL_law_495 dL_law_496 ?_
  refine r_ei I (r_runV X.1 I pk_X11_law (c11_law l G σ τ (sx xs x4 1)) lm_L_56 (by decide) (cl_11 rfl) rfl rfl rfl hl.1 rfl (Nat.le_of_ble_eq_true rfl) dL_law_497 ⟨Nat.le_of_ble_eq_true rfl, Nat.le_of_ble_eq_true rfl⟩ hcs) (fun H locs I => ?_)
  refine lv_aload_n X.1.1 X.1.2.1 dL_law_500 rfl (lv_at hl 2 rfl) ?_
  refine l_arg (n := 1) (k := 1) X I hl (by decide) hv.1 dL_law_501 dL_law_502 dL_law_504 dL_law_505 dL_law_506 ?_
  refine r_ei I (r_runV X.1 I pk_X12_law (c12_law l G (f11_law σ (sx xs x4 1)).2 τ (sx xs x4 1)) lm_L_59 (by decide) (cl_12 rfl) rfl rfl rfl hl.1 rfl (Nat.le_of_ble_eq_true rfl) dL_law_507 ⟨Nat.le_of_ble_eq_true rfl, Nat.le_of_ble_eq_true rfl⟩ hcs) (fun H locs I => ?_)
  refine lv_icmp_eq (tgt := 1581) X.1.1 X.1.2.1 dL_law_510 (by decide) (fun _ => ?_) (fun q => absurd (congrArg b2i J1.1) q)
  exact kk H locs _ τ I (INV_up (br_2 J1.2.2 (fun a ha => w_f12_law _ (sx xs x4 1) a (by omega))) (by omega))
set_option maxHeartbeats 4000000 in
set_option maxRecDepth 100000 in
theorem lc_steps {p : Program} {l : Launch} {e : Env} {s : State} {m : MethodId} {below : List Frame} {meth : Method} {c : Code} {H : Heap} {locs : List Loc} {cells slots : Nat} {Q : State → Prop} {ls : Array Slot} {G : GT} {σ : SI} {τ : SL} {b L : Nat} {xs : Nat → Int32} {x4 : Int32} {g : Nat} (X : LX p s m b L xs meth c G) (J : INV g σ σ) (hg : g + 61 < 2 ^ 31) (I : IX G s H locs σ τ) (hl : lv_has ls 7 (LB G b x4)) (hv : LV x4 L) (hcs : cells ≤ 601024 ∧ slots ≤ 7293034)
    (kk : ∀ (H1 : Heap) (locs1 : List Loc) (σ1 : SI) (τ1 : SL), IX G s H1 locs1 σ1 τ1 → INV (g + 60) σ1 σ1 → W p l e room_1 s m #[Value.ref b] below meth c H1 locs1 cells slots Q (F0 m 1581 ls [])) : W p l e room_1 s m #[Value.ref b] below meth c H locs cells slots Q (F0 m 515 ls []) := by
  have J1 := t_steps J (sx xs x4 1) (sx xs x4 2)
  refine lv_aload_n X.1.1 X.1.2.1 dL_law_515 rfl (lv_at hl 3 rfl) ?_
  refine l_arg (n := 1) (k := 1) X I hl (by decide) hv.1 dL_law_516 dL_law_517 dL_law_519 dL_law_520 dL_law_521 ?_
  refine l_arg (n := 2) (k := 2) X I hl (by decide) hv.2.1 dL_law_522 dL_law_523 dL_law_525 dL_law_526 dL_law_527 ?_
  refine r_ei I (r_runV X.1 I pk_X11_steps (c11_steps l G σ τ (sx xs x4 1) (sx xs x4 2)) lm_L_60 (by decide) (cl_11 rfl) rfl rfl rfl hl.1 rfl (Nat.le_of_ble_eq_true rfl) dL_law_528 ⟨Nat.le_of_ble_eq_true rfl, Nat.le_of_ble_eq_true rfl⟩ hcs) (fun H locs I => ?_)
  refine lv_aload_n X.1.1 X.1.2.1 dL_law_531 rfl (lv_at hl 2 rfl) ?_
  refine l_arg (n := 1) (k := 1) X I hl (by decide) hv.1 dL_law_532 dL_law_533 dL_law_535 dL_law_536 dL_law_537 ?_
  refine l_arg (n := 2) (k := 2) X I hl (by decide) hv.2.1 dL_law_538 dL_law_539 dL_law_541 dL_law_542 dL_law_543 ?_
  refine r_ei I (r_runV X.1 I pk_X12_steps (c12_steps l G σ τ (sx xs x4 1) (sx xs x4 2) J1.2) lm_L_63 (by decide) (cl_12 rfl) rfl rfl rfl hl.1 rfl (Nat.le_of_ble_eq_true rfl) dL_law_544 ⟨Nat.le_of_ble_eq_true rfl, Nat.le_of_ble_eq_true rfl⟩ hcs) (fun H locs I => ?_)
  refine lv_icmp_eq (tgt := 1581) X.1.1 X.1.2.1 dL_law_547 (by decide) (fun _ => ?_) (fun q => absurd J1.1 q)
  exact kk H locs σ τ I (INV_up J (by omega))
set_option maxHeartbeats 4000000 in
set_option maxRecDepth 100000 in
theorem lc_stands {p : Program} {l : Launch} {e : Env} {s : State} {m : MethodId} {below : List Frame} {meth : Method} {c : Code} {H : Heap} {locs : List Loc} {cells slots : Nat} {Q : State → Prop} {ls : Array Slot} {G : GT} {σ : SI} {τ : SL} {b L : Nat} {xs : Nat → Int32} {x4 : Int32} {g : Nat} (X : LX p s m b L xs meth c G) (J : INV g σ σ) (hg : g + 61 < 2 ^ 31) (I : IX G s H locs σ τ) (hl : lv_has ls 7 (LB G b x4)) (hv : LV x4 L) (hcs : cells ≤ 601024 ∧ slots ≤ 7293034)
    (kk : ∀ (H1 : Heap) (locs1 : List Loc) (σ1 : SI) (τ1 : SL), IX G s H1 locs1 σ1 τ1 → INV (g + 60) σ1 σ1 → W p l e room_1 s m #[Value.ref b] below meth c H1 locs1 cells slots Q (F0 m 1581 ls [])) : W p l e room_1 s m #[Value.ref b] below meth c H locs cells slots Q (F0 m 552 ls []) := by
  have F1 : ∀ a, 123 ≤ a → (f11_stands σ (sx xs x4 1)).2 a = σ a := fun a ha => w_f11_stands σ (sx xs x4 1) a (by omega) (by omega)
  have J1 := t_stands (br_1 J F1) (sx xs x4 1)
  refine lv_aload_n X.1.1 X.1.2.1 dL_law_552 rfl (lv_at hl 3 rfl) ?_
  refine l_arg (n := 1) (k := 1) X I hl (by decide) hv.1 dL_law_553 dL_law_554 dL_law_556 dL_law_557 dL_law_558 ?_
  refine r_ei I (r_runV X.1 I pk_X11_stands (c11_stands l G σ τ (sx xs x4 1)) lm_L_64 (by decide) (cl_11 rfl) rfl rfl rfl hl.1 rfl (Nat.le_of_ble_eq_true rfl) dL_law_559 ⟨Nat.le_of_ble_eq_true rfl, Nat.le_of_ble_eq_true rfl⟩ hcs) (fun H locs I => ?_)
  refine lv_aload_n X.1.1 X.1.2.1 dL_law_562 rfl (lv_at hl 2 rfl) ?_
  refine l_arg (n := 1) (k := 1) X I hl (by decide) hv.1 dL_law_563 dL_law_564 dL_law_566 dL_law_567 dL_law_568 ?_
  refine r_ei I (r_runV X.1 I pk_X12_stands (c12_stands l G (f11_stands σ (sx xs x4 1)).2 τ (sx xs x4 1) J1.2.1) lm_L_67 (by decide) (cl_12 rfl) rfl rfl rfl hl.1 rfl (Nat.le_of_ble_eq_true rfl) dL_law_569 ⟨Nat.le_of_ble_eq_true rfl, Nat.le_of_ble_eq_true rfl⟩ hcs) (fun H locs I => ?_)
  refine lv_icmp_eq (tgt := 1581) X.1.1 X.1.2.1 dL_law_572 (by decide) (fun _ => ?_) (fun q => absurd J1.1 q)
  exact kk H locs _ τ I (INV_up (br_2 J1.2.2 (fun a ha => w_f12_stands _ (sx xs x4 1) a (by omega) (by omega))) (by omega))
set_option maxHeartbeats 4000000 in
set_option maxRecDepth 100000 in
theorem lc_carry {p : Program} {l : Launch} {e : Env} {s : State} {m : MethodId} {below : List Frame} {meth : Method} {c : Code} {H : Heap} {locs : List Loc} {cells slots : Nat} {Q : State → Prop} {ls : Array Slot} {G : GT} {σ : SI} {τ : SL} {b L : Nat} {xs : Nat → Int32} {x4 : Int32} {g : Nat} (X : LX p s m b L xs meth c G) (J : INV g σ σ) (hg : g + 61 < 2 ^ 31) (I : IX G s H locs σ τ) (hl : lv_has ls 7 (LB G b x4)) (hv : LV x4 L) (hcs : cells ≤ 601024 ∧ slots ≤ 7293034)
    (kk : ∀ (H1 : Heap) (locs1 : List Loc) (σ1 : SI) (τ1 : SL), IX G s H1 locs1 σ1 τ1 → INV (g + 60) σ1 σ1 → W p l e room_1 s m #[Value.ref b] below meth c H1 locs1 cells slots Q (F0 m 1581 ls [])) : W p l e room_1 s m #[Value.ref b] below meth c H locs cells slots Q (F0 m 577 ls []) := by
  have F1 : ∀ a, 123 ≤ a → (f11_carry σ (sx xs x4 1)).2 a = σ a := fun a ha => w_f11_carry σ (sx xs x4 1) a (by omega) (by omega) (by omega) (by omega) (by omega) (by omega) (by omega) (by omega) (by omega)
  have J1 := t_carry (br_1 J F1) (by omega) (sx xs x4 1)
  refine lv_aload_n X.1.1 X.1.2.1 dL_law_577 rfl (lv_at hl 3 rfl) ?_
  refine l_arg (n := 1) (k := 1) X I hl (by decide) hv.1 dL_law_578 dL_law_579 dL_law_581 dL_law_582 dL_law_583 ?_
  refine r_ei I (r_runV X.1 I pk_X11_carry (c11_carry l G σ τ (sx xs x4 1)) lm_L_68 (by decide) (cl_11 rfl) rfl rfl rfl hl.1 rfl (Nat.le_of_ble_eq_true rfl) dL_law_584 ⟨Nat.le_of_ble_eq_true rfl, Nat.le_of_ble_eq_true rfl⟩ hcs) (fun H locs I => ?_)
  refine lv_aload_n X.1.1 X.1.2.1 dL_law_587 rfl (lv_at hl 2 rfl) ?_
  refine l_arg (n := 1) (k := 1) X I hl (by decide) hv.1 dL_law_588 dL_law_589 dL_law_591 dL_law_592 dL_law_593 ?_
  refine r_ei I (r_runV X.1 I pk_X12_carry (c12_carry l G (f11_carry σ (sx xs x4 1)).2 τ (sx xs x4 1) J1.2.1) lm_L_71 (by decide) (cl_12 rfl) rfl rfl rfl hl.1 rfl (Nat.le_of_ble_eq_true rfl) dL_law_594 ⟨Nat.le_of_ble_eq_true rfl, Nat.le_of_ble_eq_true rfl⟩ hcs) (fun H locs I => ?_)
  refine lv_icmp_eq (tgt := 1581) X.1.1 X.1.2.1 dL_law_597 (by decide) (fun _ => ?_) (fun q => absurd J1.1 q)
  exact kk H locs _ τ I (INV_up (br_2 J1.2.2 (fun a ha => w_f12_carry _ (sx xs x4 1) a (by omega) (by omega) (by omega) (by omega) (by omega) (by omega))) (by omega))
set_option maxHeartbeats 4000000 in
set_option maxRecDepth 100000 in
theorem lc_rest {p : Program} {l : Launch} {e : Env} {s : State} {m : MethodId} {below : List Frame} {meth : Method} {c : Code} {H : Heap} {locs : List Loc} {cells slots : Nat} {Q : State → Prop} {ls : Array Slot} {G : GT} {σ : SI} {τ : SL} {b L : Nat} {xs : Nat → Int32} {x4 : Int32} {g : Nat} (X : LX p s m b L xs meth c G) (J : INV g σ σ) (hg : g + 61 < 2 ^ 31) (I : IX G s H locs σ τ) (hl : lv_has ls 7 (LB G b x4)) (hv : LV x4 L) (hcs : cells ≤ 601024 ∧ slots ≤ 7293034)
    (kk : ∀ (H1 : Heap) (locs1 : List Loc) (σ1 : SI) (τ1 : SL), IX G s H1 locs1 σ1 τ1 → INV (g + 60) σ1 σ1 → W p l e room_1 s m #[Value.ref b] below meth c H1 locs1 cells slots Q (F0 m 1581 ls [])) : W p l e room_1 s m #[Value.ref b] below meth c H locs cells slots Q (F0 m 602 ls []) := by
  have F1 : ∀ a, 123 ≤ a → (f11_rest σ ).2 a = σ a := fun a ha => w_f11_rest σ  a (by omega) (by omega) (by omega) (by omega)
  have J1 := t_rest (br_1 J F1) 
  refine lv_aload_n X.1.1 X.1.2.1 dL_law_602 rfl (lv_at hl 3 rfl) ?_
  refine r_ei I (r_runV X.1 I pk_X11_rest (c11_rest l G σ τ ) lm_L_72 (by decide) (cl_11 rfl) rfl rfl rfl hl.1 rfl (Nat.le_of_ble_eq_true rfl) dL_law_603 ⟨Nat.le_of_ble_eq_true rfl, Nat.le_of_ble_eq_true rfl⟩ hcs) (fun H locs I => ?_)
  refine lv_aload_n X.1.1 X.1.2.1 dL_law_606 rfl (lv_at hl 2 rfl) ?_
  refine r_ei I (r_runV X.1 I pk_X12_rest (c12_rest l G (f11_rest σ ).2 τ  J1.2.1) lm_L_75 (by decide) (cl_12 rfl) rfl rfl rfl hl.1 rfl (Nat.le_of_ble_eq_true rfl) dL_law_607 ⟨Nat.le_of_ble_eq_true rfl, Nat.le_of_ble_eq_true rfl⟩ hcs) (fun H locs I => ?_)
  refine lv_icmp_eq (tgt := 1581) X.1.1 X.1.2.1 dL_law_610 (by decide) (fun _ => ?_) (fun q => absurd J1.1 q)
  exact kk H locs _ τ I (INV_up (br_2 J1.2.2 (fun a ha => w_f12_rest _  a (by omega) (by omega) (by omega) (by omega))) (by omega))
set_option maxHeartbeats 4000000 in
set_option maxRecDepth 100000 in
theorem lc_gift {p : Program} {l : Launch} {e : Env} {s : State} {m : MethodId} {below : List Frame} {meth : Method} {c : Code} {H : Heap} {locs : List Loc} {cells slots : Nat} {Q : State → Prop} {ls : Array Slot} {G : GT} {σ : SI} {τ : SL} {b L : Nat} {xs : Nat → Int32} {x4 : Int32} {g : Nat} (X : LX p s m b L xs meth c G) (J : INV g σ σ) (hg : g + 61 < 2 ^ 31) (I : IX G s H locs σ τ) (hl : lv_has ls 7 (LB G b x4)) (hv : LV x4 L) (hcs : cells ≤ 601024 ∧ slots ≤ 7293034)
    (kk : ∀ (H1 : Heap) (locs1 : List Loc) (σ1 : SI) (τ1 : SL), IX G s H1 locs1 σ1 τ1 → INV (g + 60) σ1 σ1 → W p l e room_1 s m #[Value.ref b] below meth c H1 locs1 cells slots Q (F0 m 1581 ls [])) : W p l e room_1 s m #[Value.ref b] below meth c H locs cells slots Q (F0 m 615 ls []) := by
  have F1 : ∀ a, 123 ≤ a → (f11_gift σ (sx xs x4 1) (sx xs x4 2)).2 a = σ a := fun a ha => w_f11_gift σ (sx xs x4 1) (sx xs x4 2) a (by omega) (by omega) (by omega) (by omega) (by omega)
  have J1 := t_gift (br_1 J F1) (sx xs x4 1) (sx xs x4 2)
  refine lv_aload_n X.1.1 X.1.2.1 dL_law_615 rfl (lv_at hl 3 rfl) ?_
  refine l_arg (n := 1) (k := 1) X I hl (by decide) hv.1 dL_law_616 dL_law_617 dL_law_619 dL_law_620 dL_law_621 ?_
  refine l_arg (n := 2) (k := 2) X I hl (by decide) hv.2.1 dL_law_622 dL_law_623 dL_law_625 dL_law_626 dL_law_627 ?_
  refine r_ei I (r_runV X.1 I pk_X11_gift (c11_gift l G σ τ (sx xs x4 1) (sx xs x4 2)) lm_L_76 (by decide) (cl_11 rfl) rfl rfl rfl hl.1 rfl (Nat.le_of_ble_eq_true rfl) dL_law_628 ⟨Nat.le_of_ble_eq_true rfl, Nat.le_of_ble_eq_true rfl⟩ hcs) (fun H locs I => ?_)
  refine lv_aload_n X.1.1 X.1.2.1 dL_law_631 rfl (lv_at hl 2 rfl) ?_
  refine l_arg (n := 1) (k := 1) X I hl (by decide) hv.1 dL_law_632 dL_law_633 dL_law_635 dL_law_636 dL_law_637 ?_
  refine l_arg (n := 2) (k := 2) X I hl (by decide) hv.2.1 dL_law_638 dL_law_639 dL_law_641 dL_law_642 dL_law_643 ?_
  refine r_ei I (r_runV X.1 I pk_X12_gift (c12_gift l G (f11_gift σ (sx xs x4 1) (sx xs x4 2)).2 τ (sx xs x4 1) (sx xs x4 2) J1.2.1) lm_L_79 (by decide) (cl_12 rfl) rfl rfl rfl hl.1 rfl (Nat.le_of_ble_eq_true rfl) dL_law_644 ⟨Nat.le_of_ble_eq_true rfl, Nat.le_of_ble_eq_true rfl⟩ hcs) (fun H locs I => ?_)
  refine lv_icmp_eq (tgt := 1581) X.1.1 X.1.2.1 dL_law_647 (by decide) (fun _ => ?_) (fun q => absurd J1.1 q)
  exact kk H locs _ τ I (INV_up (br_2 J1.2.2 (fun a ha => w_f12_gift _ (sx xs x4 1) (sx xs x4 2) a (by omega) (by omega) (by omega) (by omega))) (by omega))
set_option maxHeartbeats 4000000 in
set_option maxRecDepth 100000 in
theorem lc_give {p : Program} {l : Launch} {e : Env} {s : State} {m : MethodId} {below : List Frame} {meth : Method} {c : Code} {H : Heap} {locs : List Loc} {cells slots : Nat} {Q : State → Prop} {ls : Array Slot} {G : GT} {σ : SI} {τ : SL} {b L : Nat} {xs : Nat → Int32} {x4 : Int32} {g : Nat} (X : LX p s m b L xs meth c G) (J : INV g σ σ) (hg : g + 61 < 2 ^ 31) (I : IX G s H locs σ τ) (hl : lv_has ls 7 (LB G b x4)) (hv : LV x4 L) (hcs : cells ≤ 601024 ∧ slots ≤ 7293034)
    (kk : ∀ (H1 : Heap) (locs1 : List Loc) (σ1 : SI) (τ1 : SL), IX G s H1 locs1 σ1 τ1 → INV (g + 60) σ1 σ1 → W p l e room_1 s m #[Value.ref b] below meth c H1 locs1 cells slots Q (F0 m 1581 ls [])) : W p l e room_1 s m #[Value.ref b] below meth c H locs cells slots Q (F0 m 652 ls []) := by
  have F1 : ∀ a, 123 ≤ a → (f11_give σ (sx xs x4 1)).2 a = σ a := fun a ha => w_f11_give σ (sx xs x4 1) a (by omega) (by omega) (by omega) (by omega)
  have J1 := t_give (br_1 J F1) (sx xs x4 1)
  refine lv_aload_n X.1.1 X.1.2.1 dL_law_652 rfl (lv_at hl 3 rfl) ?_
  refine l_arg (n := 1) (k := 1) X I hl (by decide) hv.1 dL_law_653 dL_law_654 dL_law_656 dL_law_657 dL_law_658 ?_
  refine r_ei I (r_runV X.1 I pk_X11_give (c11_give l G σ τ (sx xs x4 1)) lm_L_80 (by decide) (cl_11 rfl) rfl rfl rfl hl.1 rfl (Nat.le_of_ble_eq_true rfl) dL_law_659 ⟨Nat.le_of_ble_eq_true rfl, Nat.le_of_ble_eq_true rfl⟩ hcs) (fun H locs I => ?_)
  refine lv_aload_n X.1.1 X.1.2.1 dL_law_662 rfl (lv_at hl 2 rfl) ?_
  refine l_arg (n := 1) (k := 1) X I hl (by decide) hv.1 dL_law_663 dL_law_664 dL_law_666 dL_law_667 dL_law_668 ?_
  refine r_ei I (r_runV X.1 I pk_X12_give (c12_give l G (f11_give σ (sx xs x4 1)).2 τ (sx xs x4 1) J1.2.1) lm_L_83 (by decide) (cl_12 rfl) rfl rfl rfl hl.1 rfl (Nat.le_of_ble_eq_true rfl) dL_law_669 ⟨Nat.le_of_ble_eq_true rfl, Nat.le_of_ble_eq_true rfl⟩ hcs) (fun H locs I => ?_)
  refine lv_icmp_eq (tgt := 1581) X.1.1 X.1.2.1 dL_law_672 (by decide) (fun _ => ?_) (fun q => absurd J1.1 q)
  exact kk H locs _ τ I (INV_up (br_2 J1.2.2 (fun a ha => w_f12_give _ (sx xs x4 1) a (by omega) (by omega) (by omega) (by omega))) (by omega))
