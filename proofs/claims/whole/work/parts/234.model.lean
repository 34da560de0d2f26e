noncomputable def f12_years_c33 (σ : SI) (x1 : Int32) (x2 : Int32) (K : Int32 → Int32 → Int32) : Nat → Int32 → Int32 → Int32
  | 0, v3, v4 => (K v3 v4)
  | fu + 1, v3, v4 => if (σ 123 25) ≤ v4 then (K v3 v4) else (if (f12_isThankful σ v4) = true then (f12_years_c33 σ x1 x2 K fu (v3 + (σ 140 (Int32.toNatClampNeg ((0 : Int32) + v4)))) (v4 + 1)) else (f12_years_c33 σ x1 x2 K fu (v3 + (if ((σ 140 (Int32.toNatClampNeg ((0 : Int32) + v4))) + (x2 * (σ 137 2))) < (30 : Int32) then ((σ 140 (Int32.toNatClampNeg ((0 : Int32) + v4))) + (x2 * (σ 137 2))) else (30 : Int32))) (v4 + 1)))
noncomputable def o12_years_c33 (σ : SI) (x1 : Int32) (x2 : Int32) (oK : Int32 → Int32 → Prop) : Nat → Int32 → Int32 → Prop
  | 0, _, _ => True
  | fu + 1, v3, v4 => if (σ 123 25) ≤ v4 then (oK v3 v4) else ((o12_isThankful σ v4) ∧ (if (f12_isThankful σ v4) = true then ((vp_in ((0 : Int32) + v4) 255) ∧ (o12_years_c33 σ x1 x2 oK fu (v3 + (σ 140 (Int32.toNatClampNeg ((0 : Int32) + v4)))) (v4 + 1))) else ((vp_in ((0 : Int32) + v4) 255) ∧ (o12_years_c33 σ x1 x2 oK fu (v3 + (if ((σ 140 (Int32.toNatClampNeg ((0 : Int32) + v4))) + (x2 * (σ 137 2))) < (30 : Int32) then ((σ 140 (Int32.toNatClampNeg ((0 : Int32) + v4))) + (x2 * (σ 137 2))) else (30 : Int32))) (v4 + 1)))))
noncomputable def f12_years_c22 (σ : SI) (x1 : Int32) : Nat → Int32 → Int32
  | 0, _ => 0
  | fu + 1, v2 => if (60 : Int32) < v2 then (-1 : Int32) else (f12_years_c33 σ x1 v2 (fun (y1_3 : Int32) (y1_4 : Int32) => if y1_3 < x1 then (f12_years_c22 σ x1 fu (v2 + 1)) else v2) (fu1 ((Int32.toInt (σ 123 25) - Int32.toInt (0 : Int32)).toNat)) (0 : Int32) (0 : Int32))
noncomputable def o12_years_c22 (σ : SI) (x1 : Int32) : Nat → Int32 → Prop
  | 0, _ => True
  | fu + 1, v2 => if (60 : Int32) < v2 then True else (o12_years_c33 σ x1 v2 (fun (y1_3 : Int32) (y1_4 : Int32) => if y1_3 < x1 then (o12_years_c22 σ x1 fu (v2 + 1)) else True) (fu1 ((Int32.toInt (σ 123 25) - Int32.toInt (0 : Int32)).toNat)) (0 : Int32) (0 : Int32))
noncomputable def f12_years (σ : SI) (x1 : Int32) : Int32 := if (σ 123 25) = (0 : Int32) then (-1 : Int32) else (if (f12_in x1 (1 : Int32) (200 : Int32)) = true then (f12_years_c22 σ x1 (fu1 ((Int32.toInt (60 : Int32) + 1 - Int32.toInt (0 : Int32)).toNat)) (0 : Int32)) else (-1 : Int32))
noncomputable def o12_years (σ : SI) (x1 : Int32) : Prop := if (σ 123 25) = (0 : Int32) then True else (if (f12_in x1 (1 : Int32) (200 : Int32)) = true then (o12_years_c22 σ x1 (fu1 ((Int32.toInt (60 : Int32) + 1 - Int32.toInt (0 : Int32)).toNat)) (0 : Int32)) else True)
set_option maxHeartbeats 4000000 in
set_option maxRecDepth 100000 in
theorem c12_years_c33 {l : Launch} {p : Program} {e : Env} {s : State} {m : MethodId} {args : Array Value} {below : List Frame} {meth : Method} {c : Code} {G : GT} (X : CX p s m args meth c cX12_years RX12 5 (some .int) G) {E : Int32} (σ : SI) (τ : SL) (x1 : Int32) (x2 : Int32) {oK : Int32 → Int32 → Prop} {K : Int32 → Int32 → Int32} (hK : ∀ (v3 : Int32) (v4 : Int32) (H : Heap) (locs : List Loc) (ls : Array Slot), IX G s H locs σ τ → lv_has ls 5 [(0, .ref (G.2.1 123)), (1, .int x1), (2, .int x2), (3, .int v3), (4, .int v4)] → oK v3 v4 → E = K v3 v4 → W p l e (rmN 2) s m args below meth c H locs 0 0 (MQ below ((Qi G (Ei E σ τ)) s.heap.size) args s 0 0 (AW G s.heap.size)) (F0 m 95 ls [])) : ∀ (fu : Nat) (v3 : Int32) (v4 : Int32) (H : Heap) (locs : List Loc) (ls : Array Slot), IX G s H locs σ τ → lv_has ls 5 [(0, .ref (G.2.1 123)), (1, .int x1), (2, .int x2), (3, .int v3), (4, .int v4)] → (o12_years_c33 σ x1 x2 oK fu v3 v4) → (Int32.toInt (σ 123 25) - Int32.toInt v4).toNat < fu → E = (f12_years_c33 σ x1 x2 K fu v3 v4) → W p l e (rmN 2) s m args below meth c H locs 0 0 (MQ below ((Qi G (Ei E σ τ)) s.heap.size) args s 0 0 (AW G s.heap.size)) (F0 m 33 ls []) := by
  intro fu
  induction fu with
  | zero =>
    intro v3 v4 H locs ls I hl  ho hm hE
    exact absurd hm (Nat.not_lt_zero _)
  | succ fu ih =>
    intro v3 v4 H locs ls I hl  ho hm hE
    unfold o12_years_c33 at ho
    refine lv_iload X.1 X.2.1 dX12_years_33 (lv_at hl 4 rfl) ?_
    refine lv_aload_n X.1 X.2.1 dX12_years_35 rfl (lv_at hl 0 rfl) ?_
    refine g12_25 X I (k := 123) (by decide) rfl lf_X12_264 dX12_years_36 ?_
    refine lv_icmp_ge (tgt := 95) X.1 X.2.1 dX12_years_39 (by decide) (fun c_4 => ?_) (fun c_4 => ?_)
    · skip
      have hE := ite_t hE c_4
      have ho := ite_tP ho c_4
      exact hK _ _ _ _ _ I (lv_sub hl [0, 1, 2, 3, 4] rfl) ho (hE.trans (rfl))
    · skip
      have hE := ite_f hE c_4
      have ho := ite_fP ho c_4
      refine lv_iload_n X.1 X.2.1 dX12_years_42 rfl (lv_at hl 3 rfl) ?_
      refine lv_aload_n X.1 X.2.1 dX12_years_43 rfl (lv_at hl 0 rfl) ?_
      refine lv_iload X.1 X.2.1 dX12_years_44 (lv_at hl 4 rfl) ?_
      have ho1 := ho.1
      have ho := ho.2
      refine r_ei I (r_runV X I pk_X12_isThankful (c12_isThankful l G _ _ _ ho1) lm_X12_295 (by decide) (cl_12 rfl) rfl rfl rfl hl.1 rfl (Nat.le_of_ble_eq_true rfl) dX12_years_46 ⟨Nat.le_of_ble_eq_true rfl, Nat.le_of_ble_eq_true rfl⟩ ⟨Nat.le_refl 0, Nat.le_refl 0⟩) (fun H locs I => ?_)
      refine lv_if_eq (tgt := 64) X.1 X.2.1 dX12_years_49 (by decide) (fun c_5 => ?_) (fun c_5 => ?_)
      · skip
        have hE := ite_f hE (b2i_n c_5)
        have ho := ite_fP ho (b2i_n c_5)
        refine lv_bipush (v := 30) X.1 X.2.1 dX12_years_64 (by decide) ?_
        refine lv_aload_n X.1 X.2.1 dX12_years_66 rfl (lv_at hl 0 rfl) ?_
        refine g12_27 X I (k := 123) (by decide) rfl lf_X12_58 dX12_years_67 ?_
        refine lv_iconst (v := 0) X.1 X.2.1 dX12_years_70 (by decide) ?_
        refine lv_iload X.1 X.2.1 dX12_years_71 (lv_at hl 4 rfl) ?_
        refine lv_iadd X.1 X.2.1 dX12_years_73 ?_
        have ho2 := ho.1
        have ho := ho.2
        refine r_ald X I (k := 140) (n := 255) (by decide) rfl ho2 dX12_years_74 ?_
        refine lv_iload_n X.1 X.2.1 dX12_years_75 rfl (lv_at hl 2 rfl) ?_
        refine lv_aload_n X.1 X.2.1 dX12_years_76 rfl (lv_at hl 0 rfl) ?_
        refine g12_22 X I (k := 123) (by decide) rfl lf_X12_49 dX12_years_77 ?_
        refine lv_iconst (v := 2) X.1 X.2.1 dX12_years_80 (by decide) ?_
        refine r_ald X I (k := 137) (n := 3) (by decide) rfl (by unfold vp_in; decide) dX12_years_81 ?_
        refine lv_imul X.1 X.2.1 dX12_years_82 ?_
        refine lv_iadd X.1 X.2.1 dX12_years_83 ?_
        refine r_mmin X hl.1 lm_X12_301 ls_J9_min_7cf53 ln_J9 lc_J9_min_7cf53 (Nat.le_of_ble_eq_true rfl) (Nat.le_of_ble_eq_true rfl) (Nat.le_refl 0) (Nat.le_refl 0) dX12_years_84 ?_
        refine lv_iadd X.1 X.2.1 dX12_years_87 ?_
        refine lv_istore_n (lv' := [(3, .int _), (0, .ref _), (1, .int _), (2, .int _), (4, .int _)]) X.1 X.2.1 dX12_years_88 rfl hl (by decide) rfl (fun ls hl => ?_)
        refine lv_iinc (v := _ + 1) (lv' := [(4, .int _), (3, .int _), (0, .ref _), (1, .int _), (2, .int _)]) X.1 X.2.1 dX12_years_89 hl (k := 4) rfl rfl (by decide) rfl (fun ls hl => ?_)
        refine lv_goto (tgt := 33) X.1 X.2.1 dX12_years_92 (by decide) ?_
        exact ih _ _ _ _ _ I (lv_sub hl [2, 3, 4, 1, 0] rfl) ho (Nat.lt_of_lt_of_le (up_dec c_4) (Nat.le_of_lt_succ hm)) (hE.trans (rfl))
      · skip
        have hE := ite_t hE (b2i_y c_5)
        have ho := ite_tP ho (b2i_y c_5)
        refine lv_aload_n X.1 X.2.1 dX12_years_52 rfl (lv_at hl 0 rfl) ?_
        refine g12_27 X I (k := 123) (by decide) rfl lf_X12_58 dX12_years_53 ?_
        refine lv_iconst (v := 0) X.1 X.2.1 dX12_years_56 (by decide) ?_
        refine lv_iload X.1 X.2.1 dX12_years_57 (lv_at hl 4 rfl) ?_
        refine lv_iadd X.1 X.2.1 dX12_years_59 ?_
        have ho3 := ho.1
        have ho := ho.2
        refine r_ald X I (k := 140) (n := 255) (by decide) rfl ho3 dX12_years_60 ?_
        refine lv_goto (tgt := 87) X.1 X.2.1 dX12_years_61 (by decide) ?_
        refine lv_iadd X.1 X.2.1 dX12_years_87 ?_
        refine lv_istore_n (lv' := [(3, .int _), (0, .ref _), (1, .int _), (2, .int _), (4, .int _)]) X.1 X.2.1 dX12_years_88 rfl hl (by decide) rfl (fun ls hl => ?_)
        refine lv_iinc (v := _ + 1) (lv' := [(4, .int _), (3, .int _), (0, .ref _), (1, .int _), (2, .int _)]) X.1 X.2.1 dX12_years_89 hl (k := 4) rfl rfl (by decide) rfl (fun ls hl => ?_)
        refine lv_goto (tgt := 33) X.1 X.2.1 dX12_years_92 (by decide) ?_
        exact ih _ _ _ _ _ I (lv_sub hl [2, 3, 4, 1, 0] rfl) ho (Nat.lt_of_lt_of_le (up_dec c_4) (Nat.le_of_lt_succ hm)) (hE.trans (rfl))
set_option maxHeartbeats 4000000 in
set_option maxRecDepth 100000 in
theorem c12_years_c22 {l : Launch} {p : Program} {e : Env} {s : State} {m : MethodId} {args : Array Value} {below : List Frame} {meth : Method} {c : Code} {G : GT} (X : CX p s m args meth c cX12_years RX12 5 (some .int) G) {E : Int32} (σ : SI) (τ : SL) (x1 : Int32) : ∀ (fu : Nat) (v2 : Int32) (H : Heap) (locs : List Loc) (ls : Array Slot), IX G s H locs σ τ → lv_has ls 5 [(0, .ref (G.2.1 123)), (1, .int x1), (2, .int v2)] → (o12_years_c22 σ x1 fu v2) → (Int32.toInt (60 : Int32) + 1 - Int32.toInt v2).toNat < fu → E = (f12_years_c22 σ x1 fu v2) → W p l e (rmN 2) s m args below meth c H locs 0 0 (MQ below ((Qi G (Ei E σ τ)) s.heap.size) args s 0 0 (AW G s.heap.size)) (F0 m 22 ls []) := by
  intro fu
  induction fu with
  | zero =>
    intro v2 H locs ls I hl  ho hm hE
    exact absurd hm (Nat.not_lt_zero _)
  | succ fu ih =>
    intro v2 H locs ls I hl  ho hm hE
    unfold o12_years_c22 at ho
    refine lv_iload_n X.1 X.2.1 dX12_years_22 rfl (lv_at hl 2 rfl) ?_
    refine lv_bipush (v := 60) X.1 X.2.1 dX12_years_23 (by decide) ?_
    refine lv_icmp_gt (tgt := 108) X.1 X.2.1 dX12_years_25 (by decide) (fun c_3 => ?_) (fun c_3 => ?_)
    · skip
      have hE := ite_t hE c_3
      have ho := ite_tP ho c_3
      refine lv_iconst (v := (-1)) X.1 X.2.1 dX12_years_108 (by decide) ?_
      have h9 := hE
      exact r_iret X I (e_i h9.symm rfl rfl) dX12_years_109
    · skip
      have hE := ite_f hE c_3
      have ho := ite_fP ho c_3
      refine lv_iconst (v := 0) X.1 X.2.1 dX12_years_28 (by decide) ?_
      refine lv_istore_n (lv' := [(3, .int _), (0, .ref _), (1, .int _), (2, .int _)]) X.1 X.2.1 dX12_years_29 rfl hl (by decide) rfl (fun ls hl => ?_)
      refine lv_iconst (v := 0) X.1 X.2.1 dX12_years_30 (by decide) ?_
      refine lv_istore (lv' := [(4, .int _), (3, .int _), (0, .ref _), (1, .int _), (2, .int _)]) X.1 X.2.1 dX12_years_31 hl (by decide) rfl (fun ls hl => ?_)
      refine c12_years_c33 X _ _ _ _ (fun y1_3 y1_4 H locs ls I hl ho hE => ?_) _ _ _ _ _ _ I (lv_sub hl [2, 3, 4, 1, 0] rfl) ho (fu1_lt _) (hE.trans (rfl))
      refine lv_iload_n X.1 X.2.1 dX12_years_95 rfl (lv_at hl 3 rfl) ?_
      refine lv_iload_n X.1 X.2.1 dX12_years_96 rfl (lv_at hl 1 rfl) ?_
      refine lv_icmp_lt (tgt := 102) X.1 X.2.1 dX12_years_97 (by decide) (fun c_6 => ?_) (fun c_6 => ?_)
      · skip
        have hE := ite_t hE c_6
        have ho := ite_tP ho c_6
        refine lv_iinc (v := _ + 1) (lv' := [(2, .int _), (0, .ref _), (1, .int _), (3, .int _), (4, .int _)]) X.1 X.2.1 dX12_years_102 hl (k := 2) rfl rfl (by decide) rfl (fun ls hl => ?_)
        refine lv_goto (tgt := 22) X.1 X.2.1 dX12_years_105 (by decide) ?_
        exact ih _ _ _ _ I (lv_sub hl [1, 2, 0] rfl) ho (Nat.lt_of_lt_of_le (up_decE (by decide) c_3) (Nat.le_of_lt_succ hm)) (hE.trans (rfl))
      · skip
        have hE := ite_f hE c_6
        have ho := ite_fP ho c_6
        refine lv_iload_n X.1 X.2.1 dX12_years_100 rfl (lv_at hl 2 rfl) ?_
        have h9 := hE
        exact r_iret X I (e_i h9.symm rfl rfl) dX12_years_101
set_option maxHeartbeats 4000000 in
set_option maxRecDepth 100000 in
theorem c12_years (l : Launch) (G : GT) (σ : SI) (τ : SL) (x1 : Int32) (ho : o12_years σ x1) : Mc l yX12_years cX12_years 5 (some .int) 2 G [.ref (G.2.1 123), .int x1] σ τ (Qi G (Ei (f12_years σ x1) σ τ)) := by
  refine m_start (by decide +kernel) (Nat.le_of_ble_eq_true rfl) rfl (fun p e s m args below meth c ls X I hl => ?_)
  have hl : lv_has ls 5 [(0, .ref (G.2.1 123)), (1, .int x1)] := hl
  obtain ⟨E, hE⟩ : ∃ E, E = (f12_years σ x1) := ⟨_, rfl⟩
  rw [← hE]
  unfold o12_years at ho
  refine lv_aload_n X.1 X.2.1 dX12_years_0 rfl (lv_at hl 0 rfl) ?_
  refine g12_25 X I (k := 123) (by decide) rfl lf_X12_264 dX12_years_1 ?_
  refine lv_if_eq (tgt := 18) X.1 X.2.1 dX12_years_4 (by decide) (fun c_1 => ?_) (fun c_1 => ?_)
  · skip
    have hE := ite_t hE c_1
    have ho := ite_tP ho c_1
    refine lv_iconst (v := (-1)) X.1 X.2.1 dX12_years_18 (by decide) ?_
    have h9 := hE
    exact r_iret X I (e_i h9.symm rfl rfl) dX12_years_19
  · skip
    have hE := ite_f hE c_1
    have ho := ite_fP ho c_1
    refine lv_iload_n X.1 X.2.1 dX12_years_7 rfl (lv_at hl 1 rfl) ?_
    refine lv_iconst (v := 1) X.1 X.2.1 dX12_years_8 (by decide) ?_
    refine lv_sipush (v := 200) X.1 X.2.1 dX12_years_9 (by decide) ?_
    refine r_ei I (r_runS X I pk_X12_in (c12_in l G _ _ _ _ _) lm_X12_220 rfl hl.1 rfl (Nat.le_of_ble_eq_true rfl) dX12_years_12 ⟨Nat.le_of_ble_eq_true rfl, Nat.le_of_ble_eq_true rfl⟩ ⟨Nat.le_refl 0, Nat.le_refl 0⟩) (fun H locs I => ?_)
    refine lv_if_ne (tgt := 20) X.1 X.2.1 dX12_years_15 (by decide) (fun c_2 => ?_) (fun c_2 => ?_)
    · skip
      have hE := ite_t hE (b2i_y c_2)
      have ho := ite_tP ho (b2i_y c_2)
      refine lv_iconst (v := 0) X.1 X.2.1 dX12_years_20 (by decide) ?_
      refine lv_istore_n (lv' := [(2, .int _), (0, .ref _), (1, .int _)]) X.1 X.2.1 dX12_years_21 rfl hl (by decide) rfl (fun ls hl => ?_)
      exact c12_years_c22 X _ _ _ _ _ _ _ _ I (lv_sub hl [1, 2, 0] rfl) ho (fu1_lt _) (hE.trans (rfl))
    · skip
      have hE := ite_f hE (b2i_n c_2)
      have ho := ite_fP ho (b2i_n c_2)
      refine lv_iconst (v := (-1)) X.1 X.2.1 dX12_years_18 (by decide) ?_
      have h9 := hE
      exact r_iret X I (e_i h9.symm rfl rfl) dX12_years_19
noncomputable def f12_waits_c23 (x1 : Int32) : Nat → Int32 → Int32 → SI → (Int32 × SI)
  | 0, _, _, σ => (0, σ)
  | fu + 1, v2, v3, σ => if (σ 123 25) ≤ v3 then (v2, σ) else (if (f12_has (σ 140 11) v3) = true then (f12_waits_c23 x1 fu (v2 ||| (0 : Int32)) (v3 + 1) σ) else (let r0 := (f12_standsNow σ v3); if r0.1 < x1 then (f12_waits_c23 x1 fu (v2 ||| (0 : Int32)) (v3 + 1) r0.2) else (f12_waits_c23 x1 fu (v2 ||| ((1 : Int32) <<< (v3 &&& 31))) (v3 + 1) r0.2)))
noncomputable def o12_waits_c23 (x1 : Int32) : Nat → Int32 → Int32 → SI → Prop
  | 0, _, _, _ => True
  | fu + 1, v2, v3, σ => if (σ 123 25) ≤ v3 then True else (if (f12_has (σ 140 11) v3) = true then (o12_waits_c23 x1 fu (v2 ||| (0 : Int32)) (v3 + 1) σ) else ((o12_standsNow σ v3) ∧ (let r0 := (f12_standsNow σ v3); if r0.1 < x1 then (o12_waits_c23 x1 fu (v2 ||| (0 : Int32)) (v3 + 1) r0.2) else (o12_waits_c23 x1 fu (v2 ||| ((1 : Int32) <<< (v3 &&& 31))) (v3 + 1) r0.2))))
noncomputable def f12_waits (σ : SI) (x1 : Int32) : Int32 × SI := if (σ 123 25) = (0 : Int32) then ((-1 : Int32), σ) else (if (f12_in x1 (0 : Int32) (60 : Int32)) = true then (f12_waits_c23 x1 (fu1 ((Int32.toInt (σ 123 25) - Int32.toInt (0 : Int32)).toNat)) (0 : Int32) (0 : Int32) σ) else ((-1 : Int32), σ))
noncomputable def o12_waits (σ : SI) (x1 : Int32) : Prop := if (σ 123 25) = (0 : Int32) then True else (if (f12_in x1 (0 : Int32) (60 : Int32)) = true then (o12_waits_c23 x1 (fu1 ((Int32.toInt (σ 123 25) - Int32.toInt (0 : Int32)).toNat)) (0 : Int32) (0 : Int32) σ) else True)
theorem w_f12_waits_c23 (x1 : Int32) (a : Nat) (h0 : a ≠ 132) (h1 : a ≠ 133) : ∀ (fu : Nat) (v2 : Int32) (v3 : Int32) (σ : SI), (f12_waits_c23 x1 fu v2 v3 σ).2 a = σ a := by
  intro fu
  induction fu with
  | zero => intro v2 v3 σ; exact rfl
  | succ fu ih =>
    intro v2 v3 σ
    refine fp_to2 ?_
    unfold f12_waits_c23
    exact (fr_ite2 (fr_mk21 rfl) (fr_ite2 (fp_of2 ((ih _ _ _))) (fr_ite2 (fp_of2 (((ih _ _ _).trans (w_f12_standsNow _ _ a h0 h1)))) (fp_of2 (((ih _ _ _).trans (w_f12_standsNow _ _ a h0 h1)))))))
theorem w_f12_waits (σ : SI) (x1 : Int32) (a : Nat) (h0 : a ≠ 132) (h1 : a ≠ 133) : (f12_waits σ x1).2 a = σ a := by
  refine fp_to2 ?_
  unfold f12_waits
  exact (fr_ite2 (fr_mk21 rfl) (fr_ite2 (fp_of2 ((w_f12_waits_c23 _ a h0 h1 _ _ _ _))) (fr_mk21 rfl)))
set_option maxHeartbeats 4000000 in
set_option maxRecDepth 100000 in
theorem c12_waits_c23 {l : Launch} {p : Program} {e : Env} {s : State} {m : MethodId} {args : Array Value} {below : List Frame} {meth : Method} {c : Code} {G : GT} (X : CX p s m args meth c cX12_waits RX12 4 (some .int) G) {E : Int32 × SI} (τ : SL) (x1 : Int32) : ∀ (fu : Nat) (v2 : Int32) (v3 : Int32) (σ : SI) (H : Heap) (locs : List Loc) (ls : Array Slot), IX G s H locs σ τ → lv_has ls 4 [(0, .ref (G.2.1 123)), (1, .int x1), (2, .int v2), (3, .int v3)] → (o12_waits_c23 x1 fu v2 v3 σ) → (Int32.toInt (σ 123 25) - Int32.toInt v3).toNat < fu → E = (f12_waits_c23 x1 fu v2 v3 σ) → W p l e (rmN 8) s m args below meth c H locs 0 0 (MQ below ((Qi G (Ei E.1 E.2 τ)) s.heap.size) args s 0 0 (AW G s.heap.size)) (F0 m 23 ls []) := by
  intro fu
  induction fu with
  | zero =>
    intro v2 v3 σ H locs ls I hl  ho hm hE
    exact absurd hm (Nat.not_lt_zero _)
  | succ fu ih =>
    intro v2 v3 σ H locs ls I hl  ho hm hE
    unfold o12_waits_c23 at ho
    refine lv_iload_n X.1 X.2.1 dX12_waits_23 rfl (lv_at hl 3 rfl) ?_
    refine lv_aload_n X.1 X.2.1 dX12_waits_24 rfl (lv_at hl 0 rfl) ?_
    refine g12_25 X I (k := 123) (by decide) rfl lf_X12_264 dX12_waits_25 ?_
    refine lv_icmp_ge (tgt := 70) X.1 X.2.1 dX12_waits_28 (by decide) (fun c_3 => ?_) (fun c_3 => ?_)
    · skip
      have hE := ite_t hE c_3
      have ho := ite_tP ho c_3
      refine lv_iload_n X.1 X.2.1 dX12_waits_70 rfl (lv_at hl 2 rfl) ?_
      have h9 := hE
      exact r_iret X I (e_i (pr_fst h9) (pr_snd h9) rfl) dX12_waits_71
    · skip
      have hE := ite_f hE c_3
      have ho := ite_fP ho c_3
      refine lv_iload_n X.1 X.2.1 dX12_waits_31 rfl (lv_at hl 2 rfl) ?_
      refine lv_aload_n X.1 X.2.1 dX12_waits_32 rfl (lv_at hl 0 rfl) ?_
      refine g12_27 X I (k := 123) (by decide) rfl lf_X12_58 dX12_waits_33 ?_
      refine lv_bipush (v := 11) X.1 X.2.1 dX12_waits_36 (by decide) ?_
      refine r_ald X I (k := 140) (n := 255) (by decide) rfl (by unfold vp_in; decide) dX12_waits_38 ?_
      refine lv_iload_n X.1 X.2.1 dX12_waits_39 rfl (lv_at hl 3 rfl) ?_
      refine r_ei I (r_runS X I pk_X12_has (c12_has l G _ _ _ _) lm_X12_231 rfl hl.1 rfl (Nat.le_of_ble_eq_true rfl) dX12_waits_40 ⟨Nat.le_of_ble_eq_true rfl, Nat.le_of_ble_eq_true rfl⟩ ⟨Nat.le_refl 0, Nat.le_refl 0⟩) (fun H locs I => ?_)
      refine lv_if_ne (tgt := 61) X.1 X.2.1 dX12_waits_43 (by decide) (fun c_4 => ?_) (fun c_4 => ?_)
      · skip
        have hE := ite_t hE (b2i_y c_4)
        have ho := ite_tP ho (b2i_y c_4)
        refine lv_iconst (v := 0) X.1 X.2.1 dX12_waits_61 (by decide) ?_
        refine lv_ior X.1 X.2.1 dX12_waits_62 ?_
        refine lv_istore_n (lv' := [(2, .int _), (0, .ref _), (1, .int _), (3, .int _)]) X.1 X.2.1 dX12_waits_63 rfl hl (by decide) rfl (fun ls hl => ?_)
        refine lv_iinc (v := _ + 1) (lv' := [(3, .int _), (2, .int _), (0, .ref _), (1, .int _)]) X.1 X.2.1 dX12_waits_64 hl (k := 3) rfl rfl (by decide) rfl (fun ls hl => ?_)
        refine lv_goto (tgt := 23) X.1 X.2.1 dX12_waits_67 (by decide) ?_
        exact ih _ _ _ _ _ _ I (lv_sub hl [2, 3, 1, 0] rfl) ho (Nat.lt_of_lt_of_le (dec_c (by first | with_reducible rfl | simp [w_f12_standsNow, sp_n]) (up_dec c_3)) (Nat.le_of_lt_succ hm)) (hE.trans (rfl))
      · skip
        have hE := ite_f hE (b2i_n c_4)
        have ho := ite_fP ho (b2i_n c_4)
        refine lv_aload_n X.1 X.2.1 dX12_waits_46 rfl (lv_at hl 0 rfl) ?_
        refine lv_iload_n X.1 X.2.1 dX12_waits_47 rfl (lv_at hl 3 rfl) ?_
        have ho1 := ho.1
        have ho := ho.2
        refine r_ei I (r_runV X I pk_X12_standsNow (c12_standsNow l G _ _ _ ho1) lm_X12_326 (by decide) (cl_12 rfl) rfl rfl rfl hl.1 rfl (Nat.le_of_ble_eq_true rfl) dX12_waits_48 ⟨Nat.le_of_ble_eq_true rfl, Nat.le_of_ble_eq_true rfl⟩ ⟨Nat.le_refl 0, Nat.le_refl 0⟩) (fun H locs I => ?_)
        refine lv_iload_n X.1 X.2.1 dX12_waits_51 rfl (lv_at hl 1 rfl) ?_
        refine lv_icmp_lt (tgt := 61) X.1 X.2.1 dX12_waits_52 (by decide) (fun c_5 => ?_) (fun c_5 => ?_)
        · skip
          have hE := ite_t hE c_5
          have ho := ite_tP ho c_5
          refine lv_iconst (v := 0) X.1 X.2.1 dX12_waits_61 (by decide) ?_
          refine lv_ior X.1 X.2.1 dX12_waits_62 ?_
          refine lv_istore_n (lv' := [(2, .int _), (0, .ref _), (1, .int _), (3, .int _)]) X.1 X.2.1 dX12_waits_63 rfl hl (by decide) rfl (fun ls hl => ?_)
          refine lv_iinc (v := _ + 1) (lv' := [(3, .int _), (2, .int _), (0, .ref _), (1, .int _)]) X.1 X.2.1 dX12_waits_64 hl (k := 3) rfl rfl (by decide) rfl (fun ls hl => ?_)
          refine lv_goto (tgt := 23) X.1 X.2.1 dX12_waits_67 (by decide) ?_
          exact ih _ _ _ _ _ _ I (lv_sub hl [2, 3, 1, 0] rfl) ho (Nat.lt_of_lt_of_le (dec_c (by first | with_reducible rfl | simp [w_f12_standsNow, sp_n]) (up_dec c_3)) (Nat.le_of_lt_succ hm)) (hE.trans (rfl))
        · skip
          have hE := ite_f hE c_5
          have ho := ite_fP ho c_5
          refine lv_iconst (v := 1) X.1 X.2.1 dX12_waits_55 (by decide) ?_
          refine lv_iload_n X.1 X.2.1 dX12_waits_56 rfl (lv_at hl 3 rfl) ?_
          refine lv_ishl X.1 X.2.1 dX12_waits_57 ?_
          refine lv_goto (tgt := 62) X.1 X.2.1 dX12_waits_58 (by decide) ?_
          refine lv_ior X.1 X.2.1 dX12_waits_62 ?_
          refine lv_istore_n (lv' := [(2, .int _), (0, .ref _), (1, .int _), (3, .int _)]) X.1 X.2.1 dX12_waits_63 rfl hl (by decide) rfl (fun ls hl => ?_)
          refine lv_iinc (v := _ + 1) (lv' := [(3, .int _), (2, .int _), (0, .ref _), (1, .int _)]) X.1 X.2.1 dX12_waits_64 hl (k := 3) rfl rfl (by decide) rfl (fun ls hl => ?_)
          refine lv_goto (tgt := 23) X.1 X.2.1 dX12_waits_67 (by decide) ?_
          exact ih _ _ _ _ _ _ I (lv_sub hl [2, 3, 1, 0] rfl) ho (Nat.lt_of_lt_of_le (dec_c (by first | with_reducible rfl | simp [w_f12_standsNow, sp_n]) (up_dec c_3)) (Nat.le_of_lt_succ hm)) (hE.trans (rfl))
set_option maxHeartbeats 4000000 in
set_option maxRecDepth 100000 in
theorem c12_waits (l : Launch) (G : GT) (σ : SI) (τ : SL) (x1 : Int32) (ho : o12_waits σ x1) : Mc l yX12_waits cX12_waits 4 (some .int) 8 G [.ref (G.2.1 123), .int x1] σ τ (Qi G (Ei (f12_waits σ x1).1 (f12_waits σ x1).2 τ)) := by
  refine m_start (by decide +kernel) (Nat.le_of_ble_eq_true rfl) rfl (fun p e s m args below meth c ls X I hl => ?_)
  have hl : lv_has ls 4 [(0, .ref (G.2.1 123)), (1, .int x1)] := hl
  obtain ⟨E, hE⟩ : ∃ E, E = (f12_waits σ x1) := ⟨_, rfl⟩
  rw [← hE]
  unfold o12_waits at ho
  refine lv_aload_n X.1 X.2.1 dX12_waits_0 rfl (lv_at hl 0 rfl) ?_
  refine g12_25 X I (k := 123) (by decide) rfl lf_X12_264 dX12_waits_1 ?_
  refine lv_if_eq (tgt := 17) X.1 X.2.1 dX12_waits_4 (by decide) (fun c_1 => ?_) (fun c_1 => ?_)
  · skip
    have hE := ite_t hE c_1
    have ho := ite_tP ho c_1
    refine lv_iconst (v := (-1)) X.1 X.2.1 dX12_waits_17 (by decide) ?_
    have h9 := hE
    exact r_iret X I (e_i (pr_fst h9) (pr_snd h9) rfl) dX12_waits_18
  · skip
    have hE := ite_f hE c_1
    have ho := ite_fP ho c_1
    refine lv_iload_n X.1 X.2.1 dX12_waits_7 rfl (lv_at hl 1 rfl) ?_
    refine lv_iconst (v := 0) X.1 X.2.1 dX12_waits_8 (by decide) ?_
    refine lv_bipush (v := 60) X.1 X.2.1 dX12_waits_9 (by decide) ?_
    refine r_ei I (r_runS X I pk_X12_in (c12_in l G _ _ _ _ _) lm_X12_220 rfl hl.1 rfl (Nat.le_of_ble_eq_true rfl) dX12_waits_11 ⟨Nat.le_of_ble_eq_true rfl, Nat.le_of_ble_eq_true rfl⟩ ⟨Nat.le_refl 0, Nat.le_refl 0⟩) (fun H locs I => ?_)
    refine lv_if_ne (tgt := 19) X.1 X.2.1 dX12_waits_14 (by decide) (fun c_2 => ?_) (fun c_2 => ?_)
    · skip
      have hE := ite_t hE (b2i_y c_2)
      have ho := ite_tP ho (b2i_y c_2)
      refine lv_iconst (v := 0) X.1 X.2.1 dX12_waits_19 (by decide) ?_
      refine lv_istore_n (lv' := [(2, .int _), (0, .ref _), (1, .int _)]) X.1 X.2.1 dX12_waits_20 rfl hl (by decide) rfl (fun ls hl => ?_)
      refine lv_iconst (v := 0) X.1 X.2.1 dX12_waits_21 (by decide) ?_
      refine lv_istore_n (lv' := [(3, .int _), (2, .int _), (0, .ref _), (1, .int _)]) X.1 X.2.1 dX12_waits_22 rfl hl (by decide) rfl (fun ls hl => ?_)
      exact c12_waits_c23 X _ _ _ _ _ _ _ _ _ I (lv_sub hl [2, 3, 1, 0] rfl) ho (fu1_lt _) (hE.trans (rfl))
    · skip
      have hE := ite_f hE (b2i_n c_2)
      have ho := ite_fP ho (b2i_n c_2)
      refine lv_iconst (v := (-1)) X.1 X.2.1 dX12_waits_17 (by decide) ?_
      have h9 := hE
      exact r_iret X I (e_i (pr_fst h9) (pr_snd h9) rfl) dX12_waits_18
