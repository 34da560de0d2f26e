set_option maxHeartbeats 4000000 in
set_option maxRecDepth 100000 in
theorem lc_rests {p : Program} {l : Launch} {e : Env} {s : State} {m : MethodId} {below : List Frame} {meth : Method} {c : Code} {H : Heap} {locs : List Loc} {cells slots : Nat} {Q : State → Prop} {ls : Array Slot} {G : GT} {σ : SI} {τ : SL} {b L : Nat} {xs : Nat → Int32} {x4 : Int32} {g : Nat} (X : LX p s m b L xs meth c G) (J : INV g σ σ) (hg : g + 61 < 2 ^ 31) (I : IX G s H locs σ τ) (hl : lv_has ls 7 (LB G b x4)) (hv : LV x4 L) (hcs : cells ≤ 601024 ∧ slots ≤ 7293034)
    (kk : ∀ (H1 : Heap) (locs1 : List Loc) (σ1 : SI) (τ1 : SL), IX G s H1 locs1 σ1 τ1 → INV (g + 60) σ1 σ1 → W p l e room_1 s m #[Value.ref b] below meth c H1 locs1 cells slots Q (F0 m 1581 ls [])) : W p l e room_1 s m #[Value.ref b] below meth c H locs cells slots Q (F0 m 1155 ls []) := by
  have F1 : ∀ a, 123 ≤ a → (f11_rests σ (sx xs x4 1) (sx xs x4 2) (sx xs x4 3)).2 a = σ a := fun a ha => w_f11_rests σ (sx xs x4 1) (sx xs x4 2) (sx xs x4 3) a (by omega) (by omega) (by omega) (by omega)
  have J1 := t_rests (br_1 J F1) (sx xs x4 1) (sx xs x4 2) (sx xs x4 3)
  refine lv_aload_n X.1.1 X.1.2.1 dL_law_1155 rfl (lv_at hl 3 rfl) ?_
  refine l_arg (n := 1) (k := 1) X I hl (by decide) hv.1 dL_law_1156 dL_law_1157 dL_law_1159 dL_law_1160 dL_law_1161 ?_
  refine l_arg (n := 2) (k := 2) X I hl (by decide) hv.2.1 dL_law_1162 dL_law_1163 dL_law_1165 dL_law_1166 dL_law_1167 ?_
  refine l_arg (n := 3) (k := 3) X I hl (by decide) hv.2.2.1 dL_law_1168 dL_law_1169 dL_law_1171 dL_law_1172 dL_law_1173 ?_
  refine r_ei I (r_runV X.1 I pk_X11_rests (c11_rests l G σ τ (sx xs x4 1) (sx xs x4 2) (sx xs x4 3)) lm_L_144 (by decide) (cl_11 rfl) rfl rfl rfl hl.1 rfl (Nat.le_of_ble_eq_true rfl) dL_law_1174 ⟨Nat.le_of_ble_eq_true rfl, Nat.le_of_ble_eq_true rfl⟩ hcs) (fun H locs I => ?_)
  refine lv_aload_n X.1.1 X.1.2.1 dL_law_1177 rfl (lv_at hl 2 rfl) ?_
  refine l_arg (n := 1) (k := 1) X I hl (by decide) hv.1 dL_law_1178 dL_law_1179 dL_law_1181 dL_law_1182 dL_law_1183 ?_
  refine l_arg (n := 2) (k := 2) X I hl (by decide) hv.2.1 dL_law_1184 dL_law_1185 dL_law_1187 dL_law_1188 dL_law_1189 ?_
  refine l_arg (n := 3) (k := 3) X I hl (by decide) hv.2.2.1 dL_law_1190 dL_law_1191 dL_law_1193 dL_law_1194 dL_law_1195 ?_
  refine r_ei I (r_runV X.1 I pk_X12_rests (c12_rests l G (f11_rests σ (sx xs x4 1) (sx xs x4 2) (sx xs x4 3)).2 τ (sx xs x4 1) (sx xs x4 2) (sx xs x4 3) J1.2.1) lm_L_147 (by decide) (cl_12 rfl) rfl rfl rfl hl.1 rfl (Nat.le_of_ble_eq_true rfl) dL_law_1196 ⟨Nat.le_of_ble_eq_true rfl, Nat.le_of_ble_eq_true rfl⟩ hcs) (fun H locs I => ?_)
  refine lv_icmp_eq (tgt := 1581) X.1.1 X.1.2.1 dL_law_1199 (by decide) (fun _ => ?_) (fun q => absurd J1.1 q)
  exact kk H locs _ τ I (INV_up (br_2 J1.2.2 (fun a ha => w_f12_rests _ (sx xs x4 1) (sx xs x4 2) (sx xs x4 3) a (by omega) (by omega))) (by omega))
set_option maxHeartbeats 4000000 in
set_option maxRecDepth 100000 in
theorem lc_rival {p : Program} {l : Launch} {e : Env} {s : State} {m : MethodId} {below : List Frame} {meth : Method} {c : Code} {H : Heap} {locs : List Loc} {cells slots : Nat} {Q : State → Prop} {ls : Array Slot} {G : GT} {σ : SI} {τ : SL} {b L : Nat} {xs : Nat → Int32} {x4 : Int32} {g : Nat} (X : LX p s m b L xs meth c G) (J : INV g σ σ) (hg : g + 61 < 2 ^ 31) (I : IX G s H locs σ τ) (hl : lv_has ls 7 (LB G b x4)) (hv : LV x4 L) (hcs : cells ≤ 601024 ∧ slots ≤ 7293034)
    (kk : ∀ (H1 : Heap) (locs1 : List Loc) (σ1 : SI) (τ1 : SL), IX G s H1 locs1 σ1 τ1 → INV (g + 60) σ1 σ1 → W p l e room_1 s m #[Value.ref b] below meth c H1 locs1 cells slots Q (F0 m 1581 ls [])) : W p l e room_1 s m #[Value.ref b] below meth c H locs cells slots Q (F0 m 1204 ls []) := by
  have J1 := t_rival J (sx xs x4 1)
  refine lv_aload_n X.1.1 X.1.2.1 dL_law_1204 rfl (lv_at hl 3 rfl) ?_
  refine l_arg (n := 1) (k := 1) X I hl (by decide) hv.1 dL_law_1205 dL_law_1206 dL_law_1208 dL_law_1209 dL_law_1210 ?_
  refine r_ei I (r_runV X.1 I pk_X11_rival (c11_rival l G σ τ (sx xs x4 1)) lm_L_148 (by decide) (cl_11 rfl) rfl rfl rfl hl.1 rfl (Nat.le_of_ble_eq_true rfl) dL_law_1211 ⟨Nat.le_of_ble_eq_true rfl, Nat.le_of_ble_eq_true rfl⟩ hcs) (fun H locs I => ?_)
  refine lv_aload_n X.1.1 X.1.2.1 dL_law_1214 rfl (lv_at hl 2 rfl) ?_
  refine l_arg (n := 1) (k := 1) X I hl (by decide) hv.1 dL_law_1215 dL_law_1216 dL_law_1218 dL_law_1219 dL_law_1220 ?_
  refine r_ei I (r_runV X.1 I pk_X12_rival (c12_rival l G σ τ (sx xs x4 1) J1.2) lm_L_151 (by decide) (cl_12 rfl) rfl rfl rfl hl.1 rfl (Nat.le_of_ble_eq_true rfl) dL_law_1221 ⟨Nat.le_of_ble_eq_true rfl, Nat.le_of_ble_eq_true rfl⟩ hcs) (fun H locs I => ?_)
  refine lv_icmp_eq (tgt := 1581) X.1.1 X.1.2.1 dL_law_1224 (by decide) (fun _ => ?_) (fun q => absurd J1.1 q)
  exact kk H locs σ τ I (INV_up J (by omega))
set_option maxHeartbeats 4000000 in
set_option maxRecDepth 100000 in
theorem lc_meets {p : Program} {l : Launch} {e : Env} {s : State} {m : MethodId} {below : List Frame} {meth : Method} {c : Code} {H : Heap} {locs : List Loc} {cells slots : Nat} {Q : State → Prop} {ls : Array Slot} {G : GT} {σ : SI} {τ : SL} {b L : Nat} {xs : Nat → Int32} {x4 : Int32} {g : Nat} (X : LX p s m b L xs meth c G) (J : INV g σ σ) (hg : g + 61 < 2 ^ 31) (I : IX G s H locs σ τ) (hl : lv_has ls 7 (LB G b x4)) (hv : LV x4 L) (hcs : cells ≤ 601024 ∧ slots ≤ 7293034)
    (kk : ∀ (H1 : Heap) (locs1 : List Loc) (σ1 : SI) (τ1 : SL), IX G s H1 locs1 σ1 τ1 → INV (g + 60) σ1 σ1 → W p l e room_1 s m #[Value.ref b] below meth c H1 locs1 cells slots Q (F0 m 1581 ls [])) : W p l e room_1 s m #[Value.ref b] below meth c H locs cells slots Q (F0 m 1229 ls []) := by
  have F1 : ∀ a, 123 ≤ a → (f11_meets σ (sx xs x4 1)).2 a = σ a := fun a ha => w_f11_meets σ (sx xs x4 1) a (by omega) (by omega)
  have J1 := t_meets (br_1 J F1) (sx xs x4 1)
  refine lv_aload_n X.1.1 X.1.2.1 dL_law_1229 rfl (lv_at hl 3 rfl) ?_
  refine l_arg (n := 1) (k := 1) X I hl (by decide) hv.1 dL_law_1230 dL_law_1231 dL_law_1233 dL_law_1234 dL_law_1235 ?_
  refine r_ei I (r_runV X.1 I pk_X11_meets (c11_meets l G σ τ (sx xs x4 1)) lm_L_152 (by decide) (cl_11 rfl) rfl rfl rfl hl.1 rfl (Nat.le_of_ble_eq_true rfl) dL_law_1236 ⟨Nat.le_of_ble_eq_true rfl, Nat.le_of_ble_eq_true rfl⟩ hcs) (fun H locs I => ?_)
  refine lv_aload_n X.1.1 X.1.2.1 dL_law_1239 rfl (lv_at hl 2 rfl) ?_
  refine l_arg (n := 1) (k := 1) X I hl (by decide) hv.1 dL_law_1240 dL_law_1241 dL_law_1243 dL_law_1244 dL_law_1245 ?_
  refine r_ei I (r_runV X.1 I pk_X12_meets (c12_meets l G (f11_meets σ (sx xs x4 1)).2 τ (sx xs x4 1) J1.2.1) lm_L_155 (by decide) (cl_12 rfl) rfl rfl rfl hl.1 rfl (Nat.le_of_ble_eq_true rfl) dL_law_1246 ⟨Nat.le_of_ble_eq_true rfl, Nat.le_of_ble_eq_true rfl⟩ hcs) (fun H locs I => ?_)
  refine lv_icmp_eq (tgt := 1581) X.1.1 X.1.2.1 dL_law_1249 (by decide) (fun _ => ?_) (fun q => absurd J1.1 q)
  exact kk H locs _ τ I (INV_up (br_2 J1.2.2 (fun a ha => w_f12_meets _ (sx xs x4 1) a (by omega) (by omega))) (by omega))
set_option maxHeartbeats 4000000 in
set_option maxRecDepth 100000 in
theorem lc_who {p : Program} {l : Launch} {e : Env} {s : State} {m : MethodId} {below : List Frame} {meth : Method} {c : Code} {H : Heap} {locs : List Loc} {cells slots : Nat} {Q : State → Prop} {ls : Array Slot} {G : GT} {σ : SI} {τ : SL} {b L : Nat} {xs : Nat → Int32} {x4 : Int32} {g : Nat} (X : LX p s m b L xs meth c G) (J : INV g σ σ) (hg : g + 61 < 2 ^ 31) (I : IX G s H locs σ τ) (hl : lv_has ls 7 (LB G b x4)) (hv : LV x4 L) (hcs : cells ≤ 601024 ∧ slots ≤ 7293034)
    (kk : ∀ (H1 : Heap) (locs1 : List Loc) (σ1 : SI) (τ1 : SL), IX G s H1 locs1 σ1 τ1 → INV (g + 60) σ1 σ1 → W p l e room_1 s m #[Value.ref b] below meth c H1 locs1 cells slots Q (F0 m 1581 ls [])) : W p l e room_1 s m #[Value.ref b] below meth c H locs cells slots Q (F0 m 1319 ls []) := by
  have F1 : ∀ a, 123 ≤ a → (f11_who σ (sx xs x4 1) (sx xs x4 2)).2 a = σ a := fun a ha => w_f11_who σ (sx xs x4 1) (sx xs x4 2) a (by omega) (by omega) (by omega)
  have J1 := t_who (br_1 J F1) (sx xs x4 1) (sx xs x4 2)
  refine lv_aload_n X.1.1 X.1.2.1 dL_law_1319 rfl (lv_at hl 3 rfl) ?_
  refine l_arg (n := 1) (k := 1) X I hl (by decide) hv.1 dL_law_1320 dL_law_1321 dL_law_1323 dL_law_1324 dL_law_1325 ?_
  refine l_arg (n := 2) (k := 2) X I hl (by decide) hv.2.1 dL_law_1326 dL_law_1327 dL_law_1329 dL_law_1330 dL_law_1331 ?_
  refine r_ei I (r_runV X.1 I pk_X11_who (c11_who l G σ τ (sx xs x4 1) (sx xs x4 2)) lm_L_161 (by decide) (cl_11 rfl) rfl rfl rfl hl.1 rfl (Nat.le_of_ble_eq_true rfl) dL_law_1332 ⟨Nat.le_of_ble_eq_true rfl, Nat.le_of_ble_eq_true rfl⟩ hcs) (fun H locs I => ?_)
  refine lv_aload_n X.1.1 X.1.2.1 dL_law_1335 rfl (lv_at hl 2 rfl) ?_
  refine l_arg (n := 1) (k := 1) X I hl (by decide) hv.1 dL_law_1336 dL_law_1337 dL_law_1339 dL_law_1340 dL_law_1341 ?_
  refine l_arg (n := 2) (k := 2) X I hl (by decide) hv.2.1 dL_law_1342 dL_law_1343 dL_law_1345 dL_law_1346 dL_law_1347 ?_
  refine r_ei I (r_runV X.1 I pk_X12_who (c12_who l G (f11_who σ (sx xs x4 1) (sx xs x4 2)).2 τ (sx xs x4 1) (sx xs x4 2) J1.2.1) lm_L_164 (by decide) (cl_12 rfl) rfl rfl rfl hl.1 rfl (Nat.le_of_ble_eq_true rfl) dL_law_1348 ⟨Nat.le_of_ble_eq_true rfl, Nat.le_of_ble_eq_true rfl⟩ hcs) (fun H locs I => ?_)
  refine lv_icmp_eq (tgt := 1581) X.1.1 X.1.2.1 dL_law_1351 (by decide) (fun _ => ?_) (fun q => absurd J1.1 q)
  exact kk H locs _ τ I (INV_up (br_2 J1.2.2 (fun a ha => w_f12_who _ (sx xs x4 1) (sx xs x4 2) a (by omega) (by omega))) (by omega))
set_option maxHeartbeats 4000000 in
set_option maxRecDepth 100000 in
theorem lc_odds {p : Program} {l : Launch} {e : Env} {s : State} {m : MethodId} {below : List Frame} {meth : Method} {c : Code} {H : Heap} {locs : List Loc} {cells slots : Nat} {Q : State → Prop} {ls : Array Slot} {G : GT} {σ : SI} {τ : SL} {b L : Nat} {xs : Nat → Int32} {x4 : Int32} {g : Nat} (X : LX p s m b L xs meth c G) (J : INV g σ σ) (hg : g + 61 < 2 ^ 31) (I : IX G s H locs σ τ) (hl : lv_has ls 7 (LB G b x4)) (hv : LV x4 L) (hcs : cells ≤ 601024 ∧ slots ≤ 7293034)
    (kk : ∀ (H1 : Heap) (locs1 : List Loc) (σ1 : SI) (τ1 : SL), IX G s H1 locs1 σ1 τ1 → INV (g + 60) σ1 σ1 → W p l e room_1 s m #[Value.ref b] below meth c H1 locs1 cells slots Q (F0 m 1581 ls [])) : W p l e room_1 s m #[Value.ref b] below meth c H locs cells slots Q (F0 m 1356 ls []) := by
  have F1 : ∀ a, 123 ≤ a → (f11_odds σ (sx xs x4 1) (sx xs x4 2)).2 a = σ a := fun a ha => w_f11_odds σ (sx xs x4 1) (sx xs x4 2) a (by omega) (by omega) (by omega) (by omega) (by omega)
  have J1 := t_odds (br_1 J F1) (sx xs x4 1) (sx xs x4 2)
  refine lv_aload_n X.1.1 X.1.2.1 dL_law_1356 rfl (lv_at hl 3 rfl) ?_
  refine l_arg (n := 1) (k := 1) X I hl (by decide) hv.1 dL_law_1357 dL_law_1358 dL_law_1360 dL_law_1361 dL_law_1362 ?_
  refine l_arg (n := 2) (k := 2) X I hl (by decide) hv.2.1 dL_law_1363 dL_law_1364 dL_law_1366 dL_law_1367 dL_law_1368 ?_
  refine r_ei I (r_runV X.1 I pk_X11_odds (c11_odds l G σ τ (sx xs x4 1) (sx xs x4 2)) lm_L_165 (by decide) (cl_11 rfl) rfl rfl rfl hl.1 rfl (Nat.le_of_ble_eq_true rfl) dL_law_1369 ⟨Nat.le_of_ble_eq_true rfl, Nat.le_of_ble_eq_true rfl⟩ hcs) (fun H locs I => ?_)
  refine lv_aload_n X.1.1 X.1.2.1 dL_law_1372 rfl (lv_at hl 2 rfl) ?_
  refine l_arg (n := 1) (k := 1) X I hl (by decide) hv.1 dL_law_1373 dL_law_1374 dL_law_1376 dL_law_1377 dL_law_1378 ?_
  refine l_arg (n := 2) (k := 2) X I hl (by decide) hv.2.1 dL_law_1379 dL_law_1380 dL_law_1382 dL_law_1383 dL_law_1384 ?_
  refine r_ei I (r_runV X.1 I pk_X12_odds (c12_odds l G (f11_odds σ (sx xs x4 1) (sx xs x4 2)).2 τ (sx xs x4 1) (sx xs x4 2) J1.2.1) lm_L_168 (by decide) (cl_12 rfl) rfl rfl rfl hl.1 rfl (Nat.le_of_ble_eq_true rfl) dL_law_1385 ⟨Nat.le_of_ble_eq_true rfl, Nat.le_of_ble_eq_true rfl⟩ hcs) (fun H locs I => ?_)
  refine lv_icmp_eq (tgt := 1581) X.1.1 X.1.2.1 dL_law_1388 (by decide) (fun _ => ?_) (fun q => absurd J1.1 q)
  exact kk H locs _ τ I (INV_up (br_2 J1.2.2 (fun a ha => w_f12_odds _ (sx xs x4 1) (sx xs x4 2) a (by omega) (by omega) (by omega) (by omega) (by omega))) (by omega))
set_option maxHeartbeats 4000000 in
set_option maxRecDepth 100000 in
theorem lc_shares {p : Program} {l : Launch} {e : Env} {s : State} {m : MethodId} {below : List Frame} {meth : Method} {c : Code} {H : Heap} {locs : List Loc} {cells slots : Nat} {Q : State → Prop} {ls : Array Slot} {G : GT} {σ : SI} {τ : SL} {b L : Nat} {xs : Nat → Int32} {x4 : Int32} {g : Nat} (X : LX p s m b L xs meth c G) (J : INV g σ σ) (hg : g + 61 < 2 ^ 31) (I : IX G s H locs σ τ) (hl : lv_has ls 7 (LB G b x4)) (hv : LV x4 L) (hcs : cells ≤ 601024 ∧ slots ≤ 7293034)
    (kk : ∀ (H1 : Heap) (locs1 : List Loc) (σ1 : SI) (τ1 : SL), IX G s H1 locs1 σ1 τ1 → INV (g + 60) σ1 σ1 → W p l e room_1 s m #[Value.ref b] below meth c H1 locs1 cells slots Q (F0 m 1581 ls [])) : W p l e room_1 s m #[Value.ref b] below meth c H locs cells slots Q (F0 m 1393 ls []) := by
  have J1 := t_shares J (sx xs x4 1) (sx xs x4 2)
  refine lv_aload_n X.1.1 X.1.2.1 dL_law_1393 rfl (lv_at hl 3 rfl) ?_
  refine l_arg (n := 1) (k := 1) X I hl (by decide) hv.1 dL_law_1394 dL_law_1395 dL_law_1397 dL_law_1398 dL_law_1399 ?_
  refine l_arg (n := 2) (k := 2) X I hl (by decide) hv.2.1 dL_law_1400 dL_law_1401 dL_law_1403 dL_law_1404 dL_law_1405 ?_
  refine r_ei I (r_runV X.1 I pk_X11_shares (c11_shares l G σ τ (sx xs x4 1) (sx xs x4 2)) lm_L_169 (by decide) (cl_11 rfl) rfl rfl rfl hl.1 rfl (Nat.le_of_ble_eq_true rfl) dL_law_1406 ⟨Nat.le_of_ble_eq_true rfl, Nat.le_of_ble_eq_true rfl⟩ hcs) (fun H locs I => ?_)
  refine lv_aload_n X.1.1 X.1.2.1 dL_law_1409 rfl (lv_at hl 2 rfl) ?_
  refine l_arg (n := 1) (k := 1) X I hl (by decide) hv.1 dL_law_1410 dL_law_1411 dL_law_1413 dL_law_1414 dL_law_1415 ?_
  refine l_arg (n := 2) (k := 2) X I hl (by decide) hv.2.1 dL_law_1416 dL_law_1417 dL_law_1419 dL_law_1420 dL_law_1421 ?_
  refine r_ei I (r_runV X.1 I pk_X12_shares (c12_shares l G σ τ (sx xs x4 1) (sx xs x4 2) J1.2) lm_L_172 (by decide) (cl_12 rfl) rfl rfl rfl hl.1 rfl (Nat.le_of_ble_eq_true rfl) dL_law_1422 ⟨Nat.le_of_ble_eq_true rfl, Nat.le_of_ble_eq_true rfl⟩ hcs) (fun H locs I => ?_)
  refine lv_icmp_eq (tgt := 1581) X.1.1 X.1.2.1 dL_law_1425 (by decide) (fun _ => ?_) (fun q => absurd J1.1 q)
  exact kk H locs σ τ I (INV_up J (by omega))
set_option maxHeartbeats 4000000 in
set_option maxRecDepth 100000 in
theorem lc_most {p : Program} {l : Launch} {e : Env} {s : State} {m : MethodId} {below : List Frame} {meth : Method} {c : Code} {H : Heap} {locs : List Loc} {cells slots : Nat} {Q : State → Prop} {ls : Array Slot} {G : GT} {σ : SI} {τ : SL} {b L : Nat} {xs : Nat → Int32} {x4 : Int32} {g : Nat} (X : LX p s m b L xs meth c G) (J : INV g σ σ) (hg : g + 61 < 2 ^ 31) (I : IX G s H locs σ τ) (hl : lv_has ls 7 (LB G b x4)) (hv : LV x4 L) (hcs : cells ≤ 601024 ∧ slots ≤ 7293034)
    (kk : ∀ (H1 : Heap) (locs1 : List Loc) (σ1 : SI) (τ1 : SL), IX G s H1 locs1 σ1 τ1 → INV (g + 60) σ1 σ1 → W p l e room_1 s m #[Value.ref b] below meth c H1 locs1 cells slots Q (F0 m 1581 ls [])) : W p l e room_1 s m #[Value.ref b] below meth c H locs cells slots Q (F0 m 1430 ls []) := by
  have J1 := t_most J (sx xs x4 1)
  refine lv_aload_n X.1.1 X.1.2.1 dL_law_1430 rfl (lv_at hl 3 rfl) ?_
  refine l_arg (n := 1) (k := 1) X I hl (by decide) hv.1 dL_law_1431 dL_law_1432 dL_law_1434 dL_law_1435 dL_law_1436 ?_
  refine r_ei I (r_runV X.1 I pk_X11_most (c11_most l G σ τ (sx xs x4 1)) lm_L_173 (by decide) (cl_11 rfl) rfl rfl rfl hl.1 rfl (Nat.le_of_ble_eq_true rfl) dL_law_1437 ⟨Nat.le_of_ble_eq_true rfl, Nat.le_of_ble_eq_true rfl⟩ hcs) (fun H locs I => ?_)
  refine lv_aload_n X.1.1 X.1.2.1 dL_law_1440 rfl (lv_at hl 2 rfl) ?_
  refine l_arg (n := 1) (k := 1) X I hl (by decide) hv.1 dL_law_1441 dL_law_1442 dL_law_1444 dL_law_1445 dL_law_1446 ?_
  refine r_ei I (r_runV X.1 I pk_X12_most (c12_most l G σ τ (sx xs x4 1) J1.2) lm_L_176 (by decide) (cl_12 rfl) rfl rfl rfl hl.1 rfl (Nat.le_of_ble_eq_true rfl) dL_law_1447 ⟨Nat.le_of_ble_eq_true rfl, Nat.le_of_ble_eq_true rfl⟩ hcs) (fun H locs I => ?_)
  refine lv_icmp_eq (tgt := 1581) X.1.1 X.1.2.1 dL_law_1450 (by decide) (fun _ => ?_) (fun q => absurd J1.1 q)
  exact kk H locs σ τ I (INV_up J (by omega))
set_option maxHeartbeats 4000000 in
set_option maxRecDepth 100000 in
theorem lc_years {p : Program} {l : Launch} {e : Env} {s : State} {m : MethodId} {below : List Frame} {meth : Method} {c : Code} {H : Heap} {locs : List Loc} {cells slots : Nat} {Q : State → Prop} {ls : Array Slot} {G : GT} {σ : SI} {τ : SL} {b L : Nat} {xs : Nat → Int32} {x4 : Int32} {g : Nat} (X : LX p s m b L xs meth c G) (J : INV g σ σ) (hg : g + 61 < 2 ^ 31) (I : IX G s H locs σ τ) (hl : lv_has ls 7 (LB G b x4)) (hv : LV x4 L) (hcs : cells ≤ 601024 ∧ slots ≤ 7293034)
    (kk : ∀ (H1 : Heap) (locs1 : List Loc) (σ1 : SI) (τ1 : SL), IX G s H1 locs1 σ1 τ1 → INV (g + 60) σ1 σ1 → W p l e room_1 s m #[Value.ref b] below meth c H1 locs1 cells slots Q (F0 m 1581 ls [])) : W p l e room_1 s m #[Value.ref b] below meth c H locs cells slots Q (F0 m 1455 ls []) := by
  have J1 := t_years J (sx xs x4 1)
  refine lv_aload_n X.1.1 X.1.2.1 dL_law_1455 rfl (lv_at hl 3 rfl) ?_
  refine l_arg (n := 1) (k := 1) X I hl (by decide) hv.1 dL_law_1456 dL_law_1457 dL_law_1459 dL_law_1460 dL_law_1461 ?_
  refine r_ei I (r_runV X.1 I pk_X11_years (c11_years l G σ τ (sx xs x4 1)) lm_L_177 (by decide) (cl_11 rfl) rfl rfl rfl hl.1 rfl (Nat.le_of_ble_eq_true rfl) dL_law_1462 ⟨Nat.le_of_ble_eq_true rfl, Nat.le_of_ble_eq_true rfl⟩ hcs) (fun H locs I => ?_)
  refine lv_aload_n X.1.1 X.1.2.1 dL_law_1465 rfl (lv_at hl 2 rfl) ?_
  refine l_arg (n := 1) (k := 1) X I hl (by decide) hv.1 dL_law_1466 dL_law_1467 dL_law_1469 dL_law_1470 dL_law_1471 ?_
  refine r_ei I (r_runV X.1 I pk_X12_years (c12_years l G σ τ (sx xs x4 1) J1.2) lm_L_180 (by decide) (cl_12 rfl) rfl rfl rfl hl.1 rfl (Nat.le_of_ble_eq_true rfl) dL_law_1472 ⟨Nat.le_of_ble_eq_true rfl, Nat.le_of_ble_eq_true rfl⟩ hcs) (fun H locs I => ?_)
  refine lv_icmp_eq (tgt := 1581) X.1.1 X.1.2.1 dL_law_1475 (by decide) (fun _ => ?_) (fun q => absurd J1.1 q)
  exact kk H locs σ τ I (INV_up J (by omega))
set_option maxHeartbeats 4000000 in
set_option maxRecDepth 100000 in
theorem lc_waits {p : Program} {l : Launch} {e : Env} {s : State} {m : MethodId} {below : List Frame} {meth : Method} {c : Code} {H : Heap} {locs : List Loc} {cells slots : Nat} {Q : State → Prop} {ls : Array Slot} {G : GT} {σ : SI} {τ : SL} {b L : Nat} {xs : Nat → Int32} {x4 : Int32} {g : Nat} (X : LX p s m b L xs meth c G) (J : INV g σ σ) (hg : g + 61 < 2 ^ 31) (I : IX G s H locs σ τ) (hl : lv_has ls 7 (LB G b x4)) (hv : LV x4 L) (hcs : cells ≤ 601024 ∧ slots ≤ 7293034)
    (kk : ∀ (H1 : Heap) (locs1 : List Loc) (σ1 : SI) (τ1 : SL), IX G s H1 locs1 σ1 τ1 → INV (g + 60) σ1 σ1 → W p l e room_1 s m #[Value.ref b] below meth c H1 locs1 cells slots Q (F0 m 1581 ls [])) : W p l e room_1 s m #[Value.ref b] below meth c H locs cells slots Q (F0 m 1480 ls []) := by
  have F1 : ∀ a, 123 ≤ a → (f11_waits σ (sx xs x4 1)).2 a = σ a := fun a ha => w_f11_waits σ (sx xs x4 1) a (by omega) (by omega)
  have J1 := t_waits (br_1 J F1) (sx xs x4 1)
  refine lv_aload_n X.1.1 X.1.2.1 dL_law_1480 rfl (lv_at hl 3 rfl) ?_
  refine l_arg (n := 1) (k := 1) X I hl (by decide) hv.1 dL_law_1481 dL_law_1482 dL_law_1484 dL_law_1485 dL_law_1486 ?_
  refine r_ei I (r_runV X.1 I pk_X11_waits (c11_waits l G σ τ (sx xs x4 1)) lm_L_181 (by decide) (cl_11 rfl) rfl rfl rfl hl.1 rfl (Nat.le_of_ble_eq_true rfl) dL_law_1487 ⟨Nat.le_of_ble_eq_true rfl, Nat.le_of_ble_eq_true rfl⟩ hcs) (fun H locs I => ?_)
  refine lv_aload_n X.1.1 X.1.2.1 dL_law_1490 rfl (lv_at hl 2 rfl) ?_
  refine l_arg (n := 1) (k := 1) X I hl (by decide) hv.1 dL_law_1491 dL_law_1492 dL_law_1494 dL_law_1495 dL_law_1496 ?_
  refine r_ei I (r_runV X.1 I pk_X12_waits (c12_waits l G (f11_waits σ (sx xs x4 1)).2 τ (sx xs x4 1) J1.2.1) lm_L_184 (by decide) (cl_12 rfl) rfl rfl rfl hl.1 rfl (Nat.le_of_ble_eq_true rfl) dL_law_1497 ⟨Nat.le_of_ble_eq_true rfl, Nat.le_of_ble_eq_true rfl⟩ hcs) (fun H locs I => ?_)
  refine lv_icmp_eq (tgt := 1581) X.1.1 X.1.2.1 dL_law_1500 (by decide) (fun _ => ?_) (fun q => absurd J1.1 q)
  exact kk H locs _ τ I (INV_up (br_2 J1.2.2 (fun a ha => w_f12_waits _ (sx xs x4 1) a (by omega) (by omega))) (by omega))
set_option maxHeartbeats 4000000 in
set_option maxRecDepth 100000 in
theorem lc_remains {p : Program} {l : Launch} {e : Env} {s : State} {m : MethodId} {below : List Frame} {meth : Method} {c : Code} {H : Heap} {locs : List Loc} {cells slots : Nat} {Q : State → Prop} {ls : Array Slot} {G : GT} {σ : SI} {τ : SL} {b L : Nat} {xs : Nat → Int32} {x4 : Int32} {g : Nat} (X : LX p s m b L xs meth c G) (J : INV g σ σ) (hg : g + 61 < 2 ^ 31) (I : IX G s H locs σ τ) (hl : lv_has ls 7 (LB G b x4)) (hv : LV x4 L) (hcs : cells ≤ 601024 ∧ slots ≤ 7293034)
    (kk : ∀ (H1 : Heap) (locs1 : List Loc) (σ1 : SI) (τ1 : SL), IX G s H1 locs1 σ1 τ1 → INV (g + 60) σ1 σ1 → W p l e room_1 s m #[Value.ref b] below meth c H1 locs1 cells slots Q (F0 m 1581 ls [])) : W p l e room_1 s m #[Value.ref b] below meth c H locs cells slots Q (F0 m 1505 ls []) := by
  have F1 : ∀ a, 123 ≤ a → (f11_remains σ (sx xs x4 1)).2 a = σ a := fun a ha => w_f11_remains σ (sx xs x4 1) a (by omega) (by omega)
  have J1 := t_remains (br_1 J F1) (sx xs x4 1)
  refine lv_aload_n X.1.1 X.1.2.1 dL_law_1505 rfl (lv_at hl 3 rfl) ?_
  refine l_arg (n := 1) (k := 1) X I hl (by decide) hv.1 dL_law_1506 dL_law_1507 dL_law_1509 dL_law_1510 dL_law_1511 ?_
  refine r_ei I (r_runV X.1 I pk_X11_remains (c11_remains l G σ τ (sx xs x4 1)) lm_L_185 (by decide) (cl_11 rfl) rfl rfl rfl hl.1 rfl (Nat.le_of_ble_eq_true rfl) dL_law_1512 ⟨Nat.le_of_ble_eq_true rfl, Nat.le_of_ble_eq_true rfl⟩ hcs) (fun H locs I => ?_)
  refine lv_aload_n X.1.1 X.1.2.1 dL_law_1515 rfl (lv_at hl 2 rfl) ?_
  refine l_arg (n := 1) (k := 1) X I hl (by decide) hv.1 dL_law_1516 dL_law_1517 dL_law_1519 dL_law_1520 dL_law_1521 ?_
  refine r_ei I (r_runV X.1 I pk_X12_remains (c12_remains l G (f11_remains σ (sx xs x4 1)).2 τ (sx xs x4 1) J1.2.1) lm_L_188 (by decide) (cl_12 rfl) rfl rfl rfl hl.1 rfl (Nat.le_of_ble_eq_true rfl) dL_law_1522 ⟨Nat.le_of_ble_eq_true rfl, Nat.le_of_ble_eq_true rfl⟩ hcs) (fun H locs I => ?_)
  refine lv_icmp_eq (tgt := 1581) X.1.1 X.1.2.1 dL_law_1525 (by decide) (fun _ => ?_) (fun q => absurd J1.1 q)
  exact kk H locs _ τ I (INV_up (br_2 J1.2.2 (fun a ha => w_f12_remains _ (sx xs x4 1) a (by omega) (by omega))) (by omega))
set_option maxHeartbeats 4000000 in
set_option maxRecDepth 100000 in
theorem lc_image {p : Program} {l : Launch} {e : Env} {s : State} {m : MethodId} {below : List Frame} {meth : Method} {c : Code} {H : Heap} {locs : List Loc} {cells slots : Nat} {Q : State → Prop} {ls : Array Slot} {G : GT} {σ : SI} {τ : SL} {b L : Nat} {xs : Nat → Int32} {x4 : Int32} {g : Nat} (X : LX p s m b L xs meth c G) (J : INV g σ σ) (hg : g + 61 < 2 ^ 31) (I : IX G s H locs σ τ) (hl : lv_has ls 7 (LB G b x4)) (hv : LV x4 L) (hcs : cells ≤ 601024 ∧ slots ≤ 7293034)
    (kk : ∀ (H1 : Heap) (locs1 : List Loc) (σ1 : SI) (τ1 : SL), IX G s H1 locs1 σ1 τ1 → INV (g + 60) σ1 σ1 → W p l e room_1 s m #[Value.ref b] below meth c H1 locs1 cells slots Q (F0 m 1581 ls [])) : W p l e room_1 s m #[Value.ref b] below meth c H locs cells slots Q (F0 m 1530 ls []) := by
  have F1 : ∀ a, 123 ≤ a → (f11_image σ ).2 a = σ a := fun a ha => w_f11_image σ  a (by omega) (by omega) (by omega) (by omega)
  have J1 := t_image (br_1 J F1) 
  refine lv_aload_n X.1.1 X.1.2.1 dL_law_1530 rfl (lv_at hl 3 rfl) ?_
  refine r_ei I (r_runV X.1 I pk_X11_image (c11_image l G σ τ ) lm_L_189 (by decide) (cl_11 rfl) rfl rfl rfl hl.1 rfl (Nat.le_of_ble_eq_true rfl) dL_law_1531 ⟨Nat.le_of_ble_eq_true rfl, Nat.le_of_ble_eq_true rfl⟩ hcs) (fun H locs I => ?_)
  refine lv_aload_n X.1.1 X.1.2.1 dL_law_1534 rfl (lv_at hl 2 rfl) ?_
  refine r_ei I (r_runV X.1 I pk_X12_image (c12_image l G (f11_image σ ).2 τ  J1.2.1) lm_L_192 (by decide) (cl_12 rfl) rfl rfl rfl hl.1 rfl (Nat.le_of_ble_eq_true rfl) dL_law_1535 ⟨Nat.le_of_ble_eq_true rfl, Nat.le_of_ble_eq_true rfl⟩ hcs) (fun H locs I => ?_)
  refine lv_icmp_eq (tgt := 1581) X.1.1 X.1.2.1 dL_law_1538 (by decide) (fun _ => ?_) (fun q => absurd J1.1 q)
  exact kk H locs _ τ I (INV_up (br_2 J1.2.2 (fun a ha => w_f12_image _  a (by omega) (by omega))) (by omega))
set_option maxHeartbeats 4000000 in
set_option maxRecDepth 100000 in
theorem lc_back {p : Program} {l : Launch} {e : Env} {s : State} {m : MethodId} {below : List Frame} {meth : Method} {c : Code} {H : Heap} {locs : List Loc} {cells slots : Nat} {Q : State → Prop} {ls : Array Slot} {G : GT} {σ : SI} {τ : SL} {b L : Nat} {xs : Nat → Int32} {x4 : Int32} {g : Nat} (X : LX p s m b L xs meth c G) (J : INV g σ σ) (hg : g + 61 < 2 ^ 31) (I : IX G s H locs σ τ) (hl : lv_has ls 7 (LB G b x4)) (hv : LV x4 L) (hcs : cells ≤ 601024 ∧ slots ≤ 7293034)
    (kk : ∀ (H1 : Heap) (locs1 : List Loc) (σ1 : SI) (τ1 : SL), IX G s H1 locs1 σ1 τ1 → INV (g + 60) σ1 σ1 → W p l e room_1 s m #[Value.ref b] below meth c H1 locs1 cells slots Q (F0 m 1581 ls [])) : W p l e room_1 s m #[Value.ref b] below meth c H locs cells slots Q (F0 m 1543 ls []) := by
  have F1 : ∀ a, 123 ≤ a → (f11_back σ ).2 a = σ a := fun a ha => w_f11_back σ  a (by omega) (by omega) (by omega) (by omega)
  have J1 := t_back (br_1 J F1) 
  refine lv_aload_n X.1.1 X.1.2.1 dL_law_1543 rfl (lv_at hl 3 rfl) ?_
  refine r_ei I (r_runV X.1 I pk_X11_back (c11_back l G σ τ ) lm_L_193 (by decide) (cl_11 rfl) rfl rfl rfl hl.1 rfl (Nat.le_of_ble_eq_true rfl) dL_law_1544 ⟨Nat.le_of_ble_eq_true rfl, Nat.le_of_ble_eq_true rfl⟩ hcs) (fun H locs I => ?_)
  refine lv_aload_n X.1.1 X.1.2.1 dL_law_1547 rfl (lv_at hl 2 rfl) ?_
  refine r_ei I (r_runV X.1 I pk_X12_back (c12_back l G (f11_back σ ).2 τ  J1.2.1) lm_L_196 (by decide) (cl_12 rfl) rfl rfl rfl hl.1 rfl (Nat.le_of_ble_eq_true rfl) dL_law_1548 ⟨Nat.le_of_ble_eq_true rfl, Nat.le_of_ble_eq_true rfl⟩ hcs) (fun H locs I => ?_)
  refine lv_icmp_eq (tgt := 1581) X.1.1 X.1.2.1 dL_law_1551 (by decide) (fun _ => ?_) (fun q => absurd J1.1 q)
  exact kk H locs _ τ I (INV_up (br_2 J1.2.2 (fun a ha => w_f12_back _  a (by omega) (by omega))) (by omega))
set_option maxHeartbeats 4000000 in
set_option maxRecDepth 100000 in
theorem lc_count {p : Program} {l : Launch} {e : Env} {s : State} {m : MethodId} {below : List Frame} {meth : Method} {c : Code} {H : Heap} {locs : List Loc} {cells slots : Nat} {Q : State → Prop} {ls : Array Slot} {G : GT} {σ : SI} {τ : SL} {b L : Nat} {xs : Nat → Int32} {x4 : Int32} {g : Nat} (X : LX p s m b L xs meth c G) (J : INV g σ σ) (hg : g + 61 < 2 ^ 31) (I : IX G s H locs σ τ) (hl : lv_has ls 7 (LB G b x4)) (hv : LV x4 L) (hcs : cells ≤ 601024 ∧ slots ≤ 7293034)
    (kk : ∀ (H1 : Heap) (locs1 : List Loc) (σ1 : SI) (τ1 : SL), IX G s H1 locs1 σ1 τ1 → INV (g + 60) σ1 σ1 → W p l e room_1 s m #[Value.ref b] below meth c H1 locs1 cells slots Q (F0 m 1581 ls [])) : W p l e room_1 s m #[Value.ref b] below meth c H locs cells slots Q (F0 m 1556 ls []) := by
  have J1 := t_count J (by omega) (sx xs x4 1)
  refine lv_aload_n X.1.1 X.1.2.1 dL_law_1556 rfl (lv_at hl 3 rfl) ?_
  refine l_arg (n := 1) (k := 1) X I hl (by decide) hv.1 dL_law_1557 dL_law_1558 dL_law_1560 dL_law_1561 dL_law_1562 ?_
  refine r_ei I (r_runV X.1 I pk_X11_count (c11_count l G σ τ (sx xs x4 1)) lm_L_197 (by decide) (cl_11 rfl) rfl rfl rfl hl.1 rfl (Nat.le_of_ble_eq_true rfl) dL_law_1563 ⟨Nat.le_of_ble_eq_true rfl, Nat.le_of_ble_eq_true rfl⟩ hcs) (fun H locs I => ?_)
  refine lv_aload_n X.1.1 X.1.2.1 dL_law_1566 rfl (lv_at hl 2 rfl) ?_
  refine l_arg (n := 1) (k := 1) X I hl (by decide) hv.1 dL_law_1567 dL_law_1568 dL_law_1570 dL_law_1571 dL_law_1572 ?_
  refine r_ei I (r_runV X.1 I pk_X12_count (c12_count l G σ τ (sx xs x4 1)) lm_L_200 (by decide) (cl_12 rfl) rfl rfl rfl hl.1 rfl (Nat.le_of_ble_eq_true rfl) dL_law_1573 ⟨Nat.le_of_ble_eq_true rfl, Nat.le_of_ble_eq_true rfl⟩ hcs) (fun H locs I => ?_)
  refine lv_icmp_eq (tgt := 1581) X.1.1 X.1.2.1 dL_law_1576 (by decide) (fun _ => ?_) (fun q => absurd J1 q)
  exact kk H locs σ τ I (INV_up J (by omega))
