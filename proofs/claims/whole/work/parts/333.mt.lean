set_option maxHeartbeats 4000000 in
set_option maxRecDepth 100000 in
theorem l_arg2 {p : Program} {l : Launch} {e : Env} {s : State} {m : MethodId} {below : List Frame} {meth : Method} {c : Code} {H : Heap} {locs : List Loc} {cells slots : Nat} {Q : State → Prop} {pc : Nat} {ls : Array Slot} {rest : List Value} {G : GT} {σ : SI} {τ : SL} {b L : Nat} {xs : Nat → Int32} {x4 : Int32} (X : LX p s m b L xs meth c G) (I : IX G s H locs σ τ) (hl : lv_has ls 7 (LB G b x4)) (hv : LV x4 L)
    (a0 : decode cL_law pc = .ok (.aload_n 0, 1)) (a1 : decode cL_law (pc + 1) = .ok (.iload 4, 2)) (a2 : decode cL_law (pc + 3) = .ok (.iconst 2, 1)) (a3 : decode cL_law (pc + 4) = .ok (.iadd, 1)) (a4 : decode cL_law (pc + 5) = .ok (.iaload, 1)) (a5 : decode cL_law (pc + 6) = .ok (.i2l, 1)) (a6 : decode cL_law (pc + 7) = .ok (.bipush 32, 2)) (a7 : decode cL_law (pc + 9) = .ok (.lshl, 1))
    (b0 : decode cL_law (pc + 10) = .ok (.aload_n 0, 1)) (b1 : decode cL_law (pc + 11) = .ok (.iload 4, 2)) (b2 : decode cL_law (pc + 13) = .ok (.iconst 3, 1)) (b3 : decode cL_law (pc + 14) = .ok (.iadd, 1)) (b4 : decode cL_law (pc + 15) = .ok (.iaload, 1)) (b5 : decode cL_law (pc + 16) = .ok (.i2l, 1)) (b6 : decode cL_law (pc + 17) = .ok (.ldc2_w 92, 3)) (b7 : decode cL_law (pc + 20) = .ok (.land, 1)) (b8 : decode cL_law (pc + 21) = .ok (.lor, 1))
    (kk : W p l e room_1 s m #[Value.ref b] below meth c H locs cells slots Q (F0 m (pc + 22) ls (.long (((sx xs x4 2).toInt64 <<< ((32 : Int32).toInt64 &&& 63)) ||| ((sx xs x4 3).toInt64 &&& 4294967295)) :: rest))) : W p l e room_1 s m #[Value.ref b] below meth c H locs cells slots Q (F0 m pc ls rest) := by
  refine l_arg (n := 2) (k := 2) X I hl (by decide) hv.2.1 a0 a1 a2 a3 a4 ?_
  refine lv_i2l X.1.1 X.1.2.1 a5 rfl ?_
  refine lv_bipush (v := 32) X.1.1 X.1.2.1 a6 (by decide) ?_
  refine lv_lshl X.1.1 X.1.2.1 a7 rfl ?_
  refine l_arg (n := 3) (k := 3) X I hl (by decide) hv.2.2.1 b0 b1 b2 b3 b4 ?_
  refine lv_i2l X.1.1 X.1.2.1 b5 rfl ?_
  refine lv_ldc2 X.1.1 X.1.2.1 X.1.2.2.2.2.1 (X.1.2.2.2.1 _ lq_L_92) b6 ?_
  refine lv_land X.1.1 X.1.2.1 b7 ?_
  exact lv_lor X.1.1 X.1.2.1 b8 kk
set_option maxHeartbeats 4000000 in
set_option maxRecDepth 100000 in
theorem l_argb {p : Program} {l : Launch} {e : Env} {s : State} {m : MethodId} {below : List Frame} {meth : Method} {c : Code} {H : Heap} {locs : List Loc} {cells slots : Nat} {Q : State → Prop} {pc tg tj : Nat} {ls : Array Slot} {rest : List Value} {G : GT} {σ : SI} {τ : SL} {b L : Nat} {xs : Nat → Int32} {x4 : Int32} (X : LX p s m b L xs meth c G) (I : IX G s H locs σ τ) (hl : lv_has ls 7 (LB G b x4)) (hv : LV x4 L)
    (a0 : decode cL_law pc = .ok (.aload_n 0, 1)) (a1 : decode cL_law (pc + 1) = .ok (.iload 4, 2)) (a2 : decode cL_law (pc + 3) = .ok (.iconst 3, 1)) (a3 : decode cL_law (pc + 4) = .ok (.iadd, 1)) (a4 : decode cL_law (pc + 5) = .ok (.iaload, 1)) (a5 : decode cL_law (pc + 6) = .ok (.ifCond .eq 7, 3)) (a6 : decode cL_law (pc + 9) = .ok (.iconst 1, 1)) (a7 : decode cL_law (pc + 10) = .ok (.goto 4, 3)) (a8 : decode cL_law tg = .ok (.iconst 0, 1)) (ht : ((pc + 6 : Nat) : Int) + 7 = (tg : Int)) (hj : ((pc + 10 : Nat) : Int) + 4 = (tj : Int)) (hk : tg + 1 = tj)
    (kk : W p l e room_1 s m #[Value.ref b] below meth c H locs cells slots Q (F0 m tj ls (.int (b2i (decide (¬ sx xs x4 3 = 0))) :: rest))) : W p l e room_1 s m #[Value.ref b] below meth c H locs cells slots Q (F0 m pc ls rest) := by
  refine l_arg (n := 3) (k := 3) X I hl (by decide) hv.2.2.1 a0 a1 a2 a3 a4 ?_
  refine lv_if_eq (tgt := tg) X.1.1 X.1.2.1 a5 ht (fun q => ?_) (fun q => ?_)
  · refine lv_iconst (v := 0) X.1.1 X.1.2.1 a8 (by decide) ?_
    rw [show b2i (decide (¬ sx xs x4 3 = 0)) = 0 by rw [decide_eq_false (fun h => h q)]; rfl] at kk
    rw [hk]
    exact kk
  · refine lv_iconst (v := 1) X.1.1 X.1.2.1 a6 (by decide) ?_
    refine lv_goto (tgt := tj) X.1.1 X.1.2.1 a7 hj ?_
    rw [show b2i (decide (¬ sx xs x4 3 = 0)) = 1 by rw [decide_eq_true q]; rfl] at kk
    exact kk
set_option maxHeartbeats 4000000 in
set_option maxRecDepth 100000 in
theorem lc_decades {p : Program} {l : Launch} {e : Env} {s : State} {m : MethodId} {below : List Frame} {meth : Method} {c : Code} {H : Heap} {locs : List Loc} {cells slots : Nat} {Q : State → Prop} {ls : Array Slot} {G : GT} {σ : SI} {τ : SL} {b L : Nat} {xs : Nat → Int32} {x4 : Int32} {g : Nat} (X : LX p s m b L xs meth c G) (J : INV g σ σ) (hg : g + 61 < 2 ^ 31) (I : IX G s H locs σ τ) (hl : lv_has ls 7 (LB G b x4)) (hv : LV x4 L) (hcs : cells ≤ 601024 ∧ slots ≤ 7293034)
    (kk : ∀ (H1 : Heap) (locs1 : List Loc) (σ1 : SI) (τ1 : SL), IX G s H1 locs1 σ1 τ1 → INV (g + 60) σ1 σ1 → W p l e room_1 s m #[Value.ref b] below meth c H1 locs1 cells slots Q (F0 m 1581 ls [])) : W p l e room_1 s m #[Value.ref b] below meth c H locs cells slots Q (F0 m 715 ls []) := by
  obtain ⟨sd, esd⟩ : ∃ sd, sd = (((sx xs x4 2).toInt64 <<< ((32 : Int32).toInt64 &&& 63)) ||| ((sx xs x4 3).toInt64 &&& 4294967295)) := ⟨_, rfl⟩
  have F1 : ∀ a, 123 ≤ a → (f11_decades σ τ (sx xs x4 1) sd).2.1 a = σ a := fun a ha => w_f11_decades σ τ (sx xs x4 1) sd a (by omega) (by omega) (by omega) (by omega) (by omega) (by omega) (by omega) (by omega)
  have J1 := t_decades (τ := τ) (τ' := (f11_decades σ τ (sx xs x4 1) sd).2.2) (br_1 J F1) (by omega) (sx xs x4 1) sd
  refine lv_aload_n X.1.1 X.1.2.1 dL_law_715 rfl (lv_at hl 3 rfl) ?_
  refine l_arg (n := 1) (k := 1) X I hl (by decide) hv.1 dL_law_716 dL_law_717 dL_law_719 dL_law_720 dL_law_721 ?_
  refine l_arg2 X I hl hv dL_law_722 dL_law_723 dL_law_725 dL_law_726 dL_law_727 dL_law_728 dL_law_729 dL_law_731 dL_law_732 dL_law_733 dL_law_735 dL_law_736 dL_law_737 dL_law_738 dL_law_739 dL_law_742 dL_law_743 ?_
  rw [← esd]
  refine r_ei I (r_runV X.1 I pk_X11_decades (c11_decades l G σ τ (sx xs x4 1) sd) lm_L_94 (by decide) (cl_11 rfl) rfl rfl rfl hl.1 rfl (Nat.le_of_ble_eq_true rfl) dL_law_744 ⟨Nat.le_of_ble_eq_true rfl, Nat.le_of_ble_eq_true rfl⟩ hcs) (fun H locs I => ?_)
  refine lv_aload_n X.1.1 X.1.2.1 dL_law_747 rfl (lv_at hl 2 rfl) ?_
  refine l_arg (n := 1) (k := 1) X I hl (by decide) hv.1 dL_law_748 dL_law_749 dL_law_751 dL_law_752 dL_law_753 ?_
  refine l_arg2 X I hl hv dL_law_754 dL_law_755 dL_law_757 dL_law_758 dL_law_759 dL_law_760 dL_law_761 dL_law_763 dL_law_764 dL_law_765 dL_law_767 dL_law_768 dL_law_769 dL_law_770 dL_law_771 dL_law_774 dL_law_775 ?_
  rw [← esd]
  refine r_ei I (r_runV X.1 I pk_X12_decades (c12_decades l G _ _ (sx xs x4 1) sd J1.2.1) lm_L_98 (by decide) (cl_12 rfl) rfl rfl rfl hl.1 rfl (Nat.le_of_ble_eq_true rfl) dL_law_776 ⟨Nat.le_of_ble_eq_true rfl, Nat.le_of_ble_eq_true rfl⟩ hcs) (fun H locs I => ?_)
  refine lv_icmp_eq (tgt := 1581) X.1.1 X.1.2.1 dL_law_779 (by decide) (fun _ => ?_) (fun q => absurd J1.1 q)
  exact kk H locs _ _ I (br_2 J1.2.2 (fun a ha => w_f12_decades _ _ (sx xs x4 1) sd a (by omega) (by omega) (by omega) (by omega) (by omega)))
set_option maxHeartbeats 4000000 in
set_option maxRecDepth 100000 in
theorem lc_seen {p : Program} {l : Launch} {e : Env} {s : State} {m : MethodId} {below : List Frame} {meth : Method} {c : Code} {H : Heap} {locs : List Loc} {cells slots : Nat} {Q : State → Prop} {ls : Array Slot} {G : GT} {σ : SI} {τ : SL} {b L : Nat} {xs : Nat → Int32} {x4 : Int32} {g : Nat} (X : LX p s m b L xs meth c G) (J : INV g σ σ) (hg : g + 61 < 2 ^ 31) (I : IX G s H locs σ τ) (hl : lv_has ls 7 (LB G b x4)) (hv : LV x4 L) (hcs : cells ≤ 601024 ∧ slots ≤ 7293034)
    (kk : ∀ (H1 : Heap) (locs1 : List Loc) (σ1 : SI) (τ1 : SL), IX G s H1 locs1 σ1 τ1 → INV (g + 60) σ1 σ1 → W p l e room_1 s m #[Value.ref b] below meth c H1 locs1 cells slots Q (F0 m 1581 ls [])) : W p l e room_1 s m #[Value.ref b] below meth c H locs cells slots Q (F0 m 1254 ls []) := by
  have F1 : ∀ a, 123 ≤ a → (f11_seen σ (sx xs x4 1) (sx xs x4 2) (decide (¬ sx xs x4 3 = 0))).2 a = σ a := fun a ha => w_f11_seen σ (sx xs x4 1) (sx xs x4 2) (decide (¬ sx xs x4 3 = 0)) a (by omega) (by omega)
  have J1 := t_seen (br_1 J F1) (sx xs x4 1) (sx xs x4 2) (decide (¬ sx xs x4 3 = 0))
  refine lv_aload_n X.1.1 X.1.2.1 dL_law_1254 rfl (lv_at hl 3 rfl) ?_
  refine l_arg (n := 1) (k := 1) X I hl (by decide) hv.1 dL_law_1255 dL_law_1256 dL_law_1258 dL_law_1259 dL_law_1260 ?_
  refine l_arg (n := 2) (k := 2) X I hl (by decide) hv.2.1 dL_law_1261 dL_law_1262 dL_law_1264 dL_law_1265 dL_law_1266 ?_
  refine l_argb (tg := 1280) (tj := 1281) X I hl hv dL_law_1267 dL_law_1268 dL_law_1270 dL_law_1271 dL_law_1272 dL_law_1273 dL_law_1276 dL_law_1277 dL_law_1280 (by decide) (by decide) rfl ?_
  refine r_ei I (r_runV X.1 I pk_X11_seen (c11_seen l G σ τ (sx xs x4 1) (sx xs x4 2) (decide (¬ sx xs x4 3 = 0))) lm_L_156 (by decide) (cl_11 rfl) rfl rfl rfl hl.1 rfl (Nat.le_of_ble_eq_true rfl) dL_law_1281 ⟨Nat.le_of_ble_eq_true rfl, Nat.le_of_ble_eq_true rfl⟩ hcs) (fun H locs I => ?_)
  refine lv_aload_n X.1.1 X.1.2.1 dL_law_1284 rfl (lv_at hl 2 rfl) ?_
  refine l_arg (n := 1) (k := 1) X I hl (by decide) hv.1 dL_law_1285 dL_law_1286 dL_law_1288 dL_law_1289 dL_law_1290 ?_
  refine l_arg (n := 2) (k := 2) X I hl (by decide) hv.2.1 dL_law_1291 dL_law_1292 dL_law_1294 dL_law_1295 dL_law_1296 ?_
  refine l_argb (tg := 1310) (tj := 1311) X I hl hv dL_law_1297 dL_law_1298 dL_law_1300 dL_law_1301 dL_law_1302 dL_law_1303 dL_law_1306 dL_law_1307 dL_law_1310 (by decide) (by decide) rfl ?_
  refine r_ei I (r_runV X.1 I pk_X12_seen (c12_seen l G _ τ (sx xs x4 1) (sx xs x4 2) (decide (¬ sx xs x4 3 = 0)) J1.2.1) lm_L_160 (by decide) (cl_12 rfl) rfl rfl rfl hl.1 rfl (Nat.le_of_ble_eq_true rfl) dL_law_1311 ⟨Nat.le_of_ble_eq_true rfl, Nat.le_of_ble_eq_true rfl⟩ hcs) (fun H locs I => ?_)
  refine lv_icmp_eq (tgt := 1581) X.1.1 X.1.2.1 dL_law_1314 (by decide) (fun _ => ?_) (fun q => absurd J1.1 q)
  exact kk H locs _ τ I (INV_up (br_2 J1.2.2 (fun a ha => w_f12_seen _ (sx xs x4 1) (sx xs x4 2) (decide (¬ sx xs x4 3 = 0)) a (by omega) (by omega) (by omega) (by omega))) (by omega))
