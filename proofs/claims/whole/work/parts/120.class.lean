noncomputable def f10_stoods (σ : SI) : Int32 := (σ 33 2)
set_option maxHeartbeats 4000000 in
set_option maxRecDepth 100000 in
theorem c10_stoods (l : Launch) (G : GT) (σ : SI) (τ : SL) : Mc l yX10_stoods cX10_stoods 1 (some .int) 0 G [.ref (G.2.1 33)] σ τ (Qi G (Ei (f10_stoods σ) σ τ)) := by
  refine m_start (by decide +kernel) (Nat.le_of_ble_eq_true rfl) rfl (fun p e s m args below meth c ls X I hl => ?_)
  have hl : lv_has ls 1 [(0, .ref (G.2.1 33))] := hl
  obtain ⟨E, hE⟩ : ∃ E, E = (f10_stoods σ) := ⟨_, rfl⟩
  rw [← hE]
  refine lv_aload_n X.1 X.2.1 dX10_stoods_0 rfl (lv_at hl 0 rfl) ?_
  refine g10_2 X I (k := 33) (by decide) rfl lf_X10_18 dX10_stoods_1 ?_
  have h9 := hE
  exact r_iret X I (e_i h9.symm rfl rfl) dX10_stoods_4
noncomputable def f10_stoodHouse (σ : SI) (x1 : Int32) : Int32 := (f11_cell 34 30 σ (x1 * (3 : Int32)))
set_option maxHeartbeats 4000000 in
set_option maxRecDepth 100000 in
theorem c10_stoodHouse (l : Launch) (G : GT) (σ : SI) (τ : SL) (x1 : Int32) : Mc l yX10_stoodHouse cX10_stoodHouse 2 (some .int) 1 G [.ref (G.2.1 33), .int x1] σ τ (Qi G (Ei (f10_stoodHouse σ x1) σ τ)) := by
  refine m_start (by decide +kernel) (Nat.le_of_ble_eq_true rfl) rfl (fun p e s m args below meth c ls X I hl => ?_)
  have hl : lv_has ls 2 [(0, .ref (G.2.1 33)), (1, .int x1)] := hl
  obtain ⟨E, hE⟩ : ∃ E, E = (f10_stoodHouse σ x1) := ⟨_, rfl⟩
  rw [← hE]
  refine lv_aload_n X.1 X.2.1 dX10_stoodHouse_0 rfl (lv_at hl 0 rfl) ?_
  refine g10_0 X I (k := 33) (by decide) rfl lf_X10_11 dX10_stoodHouse_1 ?_
  refine lv_iload_n X.1 X.2.1 dX10_stoodHouse_4 rfl (lv_at hl 1 rfl) ?_
  refine lv_iconst (v := 3) X.1 X.2.1 dX10_stoodHouse_5 (by decide) ?_
  refine lv_imul X.1 X.2.1 dX10_stoodHouse_6 ?_
  refine r_ei I (r_runN X I pk_X11_cell (c11_cell l G (k := 34) (n := 30) (by decide) rfl (by decide) _ _ _) (by decide +kernel) rfl hl.1 rfl (Nat.le_of_ble_eq_true rfl) dX10_stoodHouse_7 ⟨Nat.le_of_ble_eq_true rfl, Nat.le_of_ble_eq_true rfl⟩ ⟨Nat.le_refl 0, Nat.le_refl 0⟩) (fun H locs I => ?_)
  have h9 := hE
  exact r_iret X I (e_i h9.symm rfl rfl) dX10_stoodHouse_10
noncomputable def f10_stoodTime (σ : SI) (x1 : Int32) : Int32 := (f11_cell 34 30 σ ((x1 * (3 : Int32)) + (1 : Int32)))
set_option maxHeartbeats 4000000 in
set_option maxRecDepth 100000 in
theorem c10_stoodTime (l : Launch) (G : GT) (σ : SI) (τ : SL) (x1 : Int32) : Mc l yX10_stoodTime cX10_stoodTime 2 (some .int) 1 G [.ref (G.2.1 33), .int x1] σ τ (Qi G (Ei (f10_stoodTime σ x1) σ τ)) := by
  refine m_start (by decide +kernel) (Nat.le_of_ble_eq_true rfl) rfl (fun p e s m args below meth c ls X I hl => ?_)
  have hl : lv_has ls 2 [(0, .ref (G.2.1 33)), (1, .int x1)] := hl
  obtain ⟨E, hE⟩ : ∃ E, E = (f10_stoodTime σ x1) := ⟨_, rfl⟩
  rw [← hE]
  refine lv_aload_n X.1 X.2.1 dX10_stoodTime_0 rfl (lv_at hl 0 rfl) ?_
  refine g10_0 X I (k := 33) (by decide) rfl lf_X10_11 dX10_stoodTime_1 ?_
  refine lv_iload_n X.1 X.2.1 dX10_stoodTime_4 rfl (lv_at hl 1 rfl) ?_
  refine lv_iconst (v := 3) X.1 X.2.1 dX10_stoodTime_5 (by decide) ?_
  refine lv_imul X.1 X.2.1 dX10_stoodTime_6 ?_
  refine lv_iconst (v := 1) X.1 X.2.1 dX10_stoodTime_7 (by decide) ?_
  refine lv_iadd X.1 X.2.1 dX10_stoodTime_8 ?_
  refine r_ei I (r_runN X I pk_X11_cell (c11_cell l G (k := 34) (n := 30) (by decide) rfl (by decide) _ _ _) (by decide +kernel) rfl hl.1 rfl (Nat.le_of_ble_eq_true rfl) dX10_stoodTime_9 ⟨Nat.le_of_ble_eq_true rfl, Nat.le_of_ble_eq_true rfl⟩ ⟨Nat.le_refl 0, Nat.le_refl 0⟩) (fun H locs I => ?_)
  have h9 := hE
  exact r_iret X I (e_i h9.symm rfl rfl) dX10_stoodTime_12
noncomputable def f10_stoodLong (σ : SI) (x1 : Int32) : Int32 := (f11_cell 34 30 σ ((x1 * (3 : Int32)) + (2 : Int32)))
set_option maxHeartbeats 4000000 in
set_option maxRecDepth 100000 in
theorem c10_stoodLong (l : Launch) (G : GT) (σ : SI) (τ : SL) (x1 : Int32) : Mc l yX10_stoodLong cX10_stoodLong 2 (some .int) 1 G [.ref (G.2.1 33), .int x1] σ τ (Qi G (Ei (f10_stoodLong σ x1) σ τ)) := by
  refine m_start (by decide +kernel) (Nat.le_of_ble_eq_true rfl) rfl (fun p e s m args below meth c ls X I hl => ?_)
  have hl : lv_has ls 2 [(0, .ref (G.2.1 33)), (1, .int x1)] := hl
  obtain ⟨E, hE⟩ : ∃ E, E = (f10_stoodLong σ x1) := ⟨_, rfl⟩
  rw [← hE]
  refine lv_aload_n X.1 X.2.1 dX10_stoodLong_0 rfl (lv_at hl 0 rfl) ?_
  refine g10_0 X I (k := 33) (by decide) rfl lf_X10_11 dX10_stoodLong_1 ?_
  refine lv_iload_n X.1 X.2.1 dX10_stoodLong_4 rfl (lv_at hl 1 rfl) ?_
  refine lv_iconst (v := 3) X.1 X.2.1 dX10_stoodLong_5 (by decide) ?_
  refine lv_imul X.1 X.2.1 dX10_stoodLong_6 ?_
  refine lv_iconst (v := 2) X.1 X.2.1 dX10_stoodLong_7 (by decide) ?_
  refine lv_iadd X.1 X.2.1 dX10_stoodLong_8 ?_
  refine r_ei I (r_runN X I pk_X11_cell (c11_cell l G (k := 34) (n := 30) (by decide) rfl (by decide) _ _ _) (by decide +kernel) rfl hl.1 rfl (Nat.le_of_ble_eq_true rfl) dX10_stoodLong_9 ⟨Nat.le_of_ble_eq_true rfl, Nat.le_of_ble_eq_true rfl⟩ ⟨Nat.le_refl 0, Nat.le_refl 0⟩) (fun H locs I => ?_)
  have h9 := hE
  exact r_iret X I (e_i h9.symm rfl rfl) dX10_stoodLong_12
noncomputable def f10_seens (σ : SI) : Int32 := (σ 33 3)
set_option maxHeartbeats 4000000 in
set_option maxRecDepth 100000 in
theorem c10_seens (l : Launch) (G : GT) (σ : SI) (τ : SL) : Mc l yX10_seens cX10_seens 1 (some .int) 0 G [.ref (G.2.1 33)] σ τ (Qi G (Ei (f10_seens σ) σ τ)) := by
  refine m_start (by decide +kernel) (Nat.le_of_ble_eq_true rfl) rfl (fun p e s m args below meth c ls X I hl => ?_)
  have hl : lv_has ls 1 [(0, .ref (G.2.1 33))] := hl
  obtain ⟨E, hE⟩ : ∃ E, E = (f10_seens σ) := ⟨_, rfl⟩
  rw [← hE]
  refine lv_aload_n X.1 X.2.1 dX10_seens_0 rfl (lv_at hl 0 rfl) ?_
  refine g10_3 X I (k := 33) (by decide) rfl lf_X10_22 dX10_seens_1 ?_
  have h9 := hE
  exact r_iret X I (e_i h9.symm rfl rfl) dX10_seens_4
noncomputable def f10_seenPlace (σ : SI) (x1 : Int32) : Int32 := (f11_cell 35 30 σ (x1 * (3 : Int32)))
set_option maxHeartbeats 4000000 in
set_option maxRecDepth 100000 in
theorem c10_seenPlace (l : Launch) (G : GT) (σ : SI) (τ : SL) (x1 : Int32) : Mc l yX10_seenPlace cX10_seenPlace 2 (some .int) 1 G [.ref (G.2.1 33), .int x1] σ τ (Qi G (Ei (f10_seenPlace σ x1) σ τ)) := by
  refine m_start (by decide +kernel) (Nat.le_of_ble_eq_true rfl) rfl (fun p e s m args below meth c ls X I hl => ?_)
  have hl : lv_has ls 2 [(0, .ref (G.2.1 33)), (1, .int x1)] := hl
  obtain ⟨E, hE⟩ : ∃ E, E = (f10_seenPlace σ x1) := ⟨_, rfl⟩
  rw [← hE]
  refine lv_aload_n X.1 X.2.1 dX10_seenPlace_0 rfl (lv_at hl 0 rfl) ?_
  refine g10_1 X I (k := 33) (by decide) rfl lf_X10_15 dX10_seenPlace_1 ?_
  refine lv_iload_n X.1 X.2.1 dX10_seenPlace_4 rfl (lv_at hl 1 rfl) ?_
  refine lv_iconst (v := 3) X.1 X.2.1 dX10_seenPlace_5 (by decide) ?_
  refine lv_imul X.1 X.2.1 dX10_seenPlace_6 ?_
  refine r_ei I (r_runN X I pk_X11_cell (c11_cell l G (k := 35) (n := 30) (by decide) rfl (by decide) _ _ _) (by decide +kernel) rfl hl.1 rfl (Nat.le_of_ble_eq_true rfl) dX10_seenPlace_7 ⟨Nat.le_of_ble_eq_true rfl, Nat.le_of_ble_eq_true rfl⟩ ⟨Nat.le_refl 0, Nat.le_refl 0⟩) (fun H locs I => ?_)
  have h9 := hE
  exact r_iret X I (e_i h9.symm rfl rfl) dX10_seenPlace_10
noncomputable def f10_seenHouse (σ : SI) (x1 : Int32) : Int32 := (f11_cell 35 30 σ ((x1 * (3 : Int32)) + (1 : Int32)))
set_option maxHeartbeats 4000000 in
set_option maxRecDepth 100000 in
theorem c10_seenHouse (l : Launch) (G : GT) (σ : SI) (τ : SL) (x1 : Int32) : Mc l yX10_seenHouse cX10_seenHouse 2 (some .int) 1 G [.ref (G.2.1 33), .int x1] σ τ (Qi G (Ei (f10_seenHouse σ x1) σ τ)) := by
  refine m_start (by decide +kernel) (Nat.le_of_ble_eq_true rfl) rfl (fun p e s m args below meth c ls X I hl => ?_)
  have hl : lv_has ls 2 [(0, .ref (G.2.1 33)), (1, .int x1)] := hl
  obtain ⟨E, hE⟩ : ∃ E, E = (f10_seenHouse σ x1) := ⟨_, rfl⟩
  rw [← hE]
  refine lv_aload_n X.1 X.2.1 dX10_seenHouse_0 rfl (lv_at hl 0 rfl) ?_
  refine g10_1 X I (k := 33) (by decide) rfl lf_X10_15 dX10_seenHouse_1 ?_
  refine lv_iload_n X.1 X.2.1 dX10_seenHouse_4 rfl (lv_at hl 1 rfl) ?_
  refine lv_iconst (v := 3) X.1 X.2.1 dX10_seenHouse_5 (by decide) ?_
  refine lv_imul X.1 X.2.1 dX10_seenHouse_6 ?_
  refine lv_iconst (v := 1) X.1 X.2.1 dX10_seenHouse_7 (by decide) ?_
  refine lv_iadd X.1 X.2.1 dX10_seenHouse_8 ?_
  refine r_ei I (r_runN X I pk_X11_cell (c11_cell l G (k := 35) (n := 30) (by decide) rfl (by decide) _ _ _) (by decide +kernel) rfl hl.1 rfl (Nat.le_of_ble_eq_true rfl) dX10_seenHouse_9 ⟨Nat.le_of_ble_eq_true rfl, Nat.le_of_ble_eq_true rfl⟩ ⟨Nat.le_refl 0, Nat.le_refl 0⟩) (fun H locs I => ?_)
  have h9 := hE
  exact r_iret X I (e_i h9.symm rfl rfl) dX10_seenHouse_12
noncomputable def f10_seenIs (σ : SI) (x1 : Int32) : Bool := if (f11_cell 35 30 σ ((x1 * (3 : Int32)) + (2 : Int32))) = (1 : Int32) then true else false
set_option maxHeartbeats 4000000 in
set_option maxRecDepth 100000 in
theorem c10_seenIs (l : Launch) (G : GT) (σ : SI) (τ : SL) (x1 : Int32) : Mc l yX10_seenIs cX10_seenIs 2 (some .boolean) 1 G [.ref (G.2.1 33), .int x1] σ τ (Qi G (Ei (b2i (f10_seenIs σ x1)) σ τ)) := by
  refine m_start (by decide +kernel) (Nat.le_of_ble_eq_true rfl) rfl (fun p e s m args below meth c ls X I hl => ?_)
  have hl : lv_has ls 2 [(0, .ref (G.2.1 33)), (1, .int x1)] := hl
  obtain ⟨E, hE⟩ : ∃ E, E = (f10_seenIs σ x1) := ⟨_, rfl⟩
  rw [← hE]
  refine lv_aload_n X.1 X.2.1 dX10_seenIs_0 rfl (lv_at hl 0 rfl) ?_
  refine g10_1 X I (k := 33) (by decide) rfl lf_X10_15 dX10_seenIs_1 ?_
  refine lv_iload_n X.1 X.2.1 dX10_seenIs_4 rfl (lv_at hl 1 rfl) ?_
  refine lv_iconst (v := 3) X.1 X.2.1 dX10_seenIs_5 (by decide) ?_
  refine lv_imul X.1 X.2.1 dX10_seenIs_6 ?_
  refine lv_iconst (v := 2) X.1 X.2.1 dX10_seenIs_7 (by decide) ?_
  refine lv_iadd X.1 X.2.1 dX10_seenIs_8 ?_
  refine r_ei I (r_runN X I pk_X11_cell (c11_cell l G (k := 35) (n := 30) (by decide) rfl (by decide) _ _ _) (by decide +kernel) rfl hl.1 rfl (Nat.le_of_ble_eq_true rfl) dX10_seenIs_9 ⟨Nat.le_of_ble_eq_true rfl, Nat.le_of_ble_eq_true rfl⟩ ⟨Nat.le_refl 0, Nat.le_refl 0⟩) (fun H locs I => ?_)
  refine lv_iconst (v := 1) X.1 X.2.1 dX10_seenIs_12 (by decide) ?_
  refine lv_icmp_ne (tgt := 20) X.1 X.2.1 dX10_seenIs_13 (by decide) (fun c_1 => ?_) (fun c_1 => ?_)
  · skip
    have hE := ite_f hE c_1
    refine lv_iconst (v := 0) X.1 X.2.1 dX10_seenIs_20 (by decide) ?_
    have h9 := hE
    exact r_zret X I rfl (e_i (congrArg b2i h9).symm rfl rfl) dX10_seenIs_21
  · skip
    have hE := ite_t hE c_1
    refine lv_iconst (v := 1) X.1 X.2.1 dX10_seenIs_16 (by decide) ?_
    refine lv_goto (tgt := 21) X.1 X.2.1 dX10_seenIs_17 (by decide) ?_
    have h9 := hE
    exact r_zret X I rfl (e_i (congrArg b2i h9).symm rfl rfl) dX10_seenIs_21
noncomputable def f11_signsIn_c5 (x0 : Int32) : Nat → Int32 → Int32 → Int32
  | 0, _, _ => 0
  | fu + 1, v1, v2 => if v2 < (0 : Int32) then v1 else (if (((Int32.toUInt32 x0 >>> (Int32.toUInt32 v2 &&& Int32.toUInt32 31)).toInt32) &&& (255 : Int32)) = (0 : Int32) then (f11_signsIn_c5 x0 fu v1 (v2 + (-8))) else (f11_signsIn_c5 x0 fu (v1 + 1) (v2 + (-8))))
noncomputable def f11_signsIn (x0 : Int32) : Int32 := (f11_signsIn_c5 x0 (fu1 ((Int32.toInt (24 : Int32) + 8).toNat)) (0 : Int32) (24 : Int32))
set_option maxHeartbeats 4000000 in
set_option maxRecDepth 100000 in
theorem c11_signsIn_c5 {l : Launch} {p : Program} {e : Env} {s : State} {m : MethodId} {args : Array Value} {below : List Frame} {meth : Method} {c : Code} {G : GT} (X : CX p s m args meth c cX11_signsIn RX11 3 (some .int) G) {E : Int32} (σ : SI) (τ : SL) (x0 : Int32) : ∀ (fu : Nat) (v1 : Int32) (v2 : Int32) (H : Heap) (locs : List Loc) (ls : Array Slot), IX G s H locs σ τ → lv_has ls 3 [(0, .int x0), (1, .int v1), (2, .int v2)] → (Int32.toInt v2 + 8).toNat < fu → E = (f11_signsIn_c5 x0 fu v1 v2) → W p l e (rmN 0) s m args below meth c H locs 0 0 (MQ below ((Qi G (Ei E σ τ)) s.heap.size) args s 0 0 (AW G s.heap.size)) (F0 m 5 ls []) := by
  intro fu
  induction fu with
  | zero =>
    intro v1 v2 H locs ls I hl  hm hE
    exact absurd hm (Nat.not_lt_zero _)
  | succ fu ih =>
    intro v1 v2 H locs ls I hl  hm hE
    refine lv_iload_n X.1 X.2.1 dX11_signsIn_5 rfl (lv_at hl 2 rfl) ?_
    refine lv_if_lt (tgt := 28) X.1 X.2.1 dX11_signsIn_6 (by decide) (fun c_1 => ?_) (fun c_1 => ?_)
    · skip
      have hE := ite_t hE c_1
      refine lv_iload_n X.1 X.2.1 dX11_signsIn_28 rfl (lv_at hl 1 rfl) ?_
      have h9 := hE
      exact r_iret X I (e_i h9.symm rfl rfl) dX11_signsIn_29
    · skip
      have hE := ite_f hE c_1
      refine lv_iload_n X.1 X.2.1 dX11_signsIn_9 rfl (lv_at hl 0 rfl) ?_
      refine lv_iload_n X.1 X.2.1 dX11_signsIn_10 rfl (lv_at hl 2 rfl) ?_
      refine lv_iushr X.1 X.2.1 dX11_signsIn_11 rfl ?_
      refine lv_sipush (v := 255) X.1 X.2.1 dX11_signsIn_12 (by decide) ?_
      refine lv_iand X.1 X.2.1 dX11_signsIn_15 ?_
      refine lv_if_eq (tgt := 22) X.1 X.2.1 dX11_signsIn_16 (by decide) (fun c_2 => ?_) (fun c_2 => ?_)
      · skip
        have hE := ite_t hE c_2
        refine lv_iinc (v := _ + (-8)) (lv' := [(2, .int _), (0, .int _), (1, .int _)]) X.1 X.2.1 dX11_signsIn_22 hl (k := 2) rfl rfl (by decide) rfl (fun ls hl => ?_)
        refine lv_goto (tgt := 5) X.1 X.2.1 dX11_signsIn_25 (by decide) ?_
        exact ih _ _ _ _ _ I (lv_sub hl [1, 2, 0] rfl) (Nat.lt_of_lt_of_le (dn_dec8 c_1) (Nat.le_of_lt_succ hm)) (hE.trans (rfl))
      · skip
        have hE := ite_f hE c_2
        refine lv_iinc (v := _ + 1) (lv' := [(1, .int _), (0, .int _), (2, .int _)]) X.1 X.2.1 dX11_signsIn_19 hl (k := 1) rfl rfl (by decide) rfl (fun ls hl => ?_)
        refine lv_iinc (v := _ + (-8)) (lv' := [(2, .int _), (1, .int _), (0, .int _)]) X.1 X.2.1 dX11_signsIn_22 hl (k := 2) rfl rfl (by decide) rfl (fun ls hl => ?_)
        refine lv_goto (tgt := 5) X.1 X.2.1 dX11_signsIn_25 (by decide) ?_
        exact ih _ _ _ _ _ I (lv_sub hl [2, 1, 0] rfl) (Nat.lt_of_lt_of_le (dn_dec8 c_1) (Nat.le_of_lt_succ hm)) (hE.trans (rfl))
set_option maxHeartbeats 4000000 in
set_option maxRecDepth 100000 in
theorem c11_signsIn (l : Launch) (G : GT) (σ : SI) (τ : SL) (x0 : Int32) : Mc l yX11_signsIn cX11_signsIn 3 (some .int) 0 G [.int x0] σ τ (Qi G (Ei (f11_signsIn x0) σ τ)) := by
  refine m_start (by decide +kernel) (Nat.le_of_ble_eq_true rfl) rfl (fun p e s m args below meth c ls X I hl => ?_)
  have hl : lv_has ls 3 [(0, .int x0)] := hl
  obtain ⟨E, hE⟩ : ∃ E, E = (f11_signsIn x0) := ⟨_, rfl⟩
  rw [← hE]
  refine lv_iconst (v := 0) X.1 X.2.1 dX11_signsIn_0 (by decide) ?_
  refine lv_istore_n (lv' := [(1, .int _), (0, .int _)]) X.1 X.2.1 dX11_signsIn_1 rfl hl (by decide) rfl (fun ls hl => ?_)
  refine lv_bipush (v := 24) X.1 X.2.1 dX11_signsIn_2 (by decide) ?_
  refine lv_istore_n (lv' := [(2, .int _), (1, .int _), (0, .int _)]) X.1 X.2.1 dX11_signsIn_4 rfl hl (by decide) rfl (fun ls hl => ?_)
  exact c11_signsIn_c5 X _ _ _ _ _ _ _ _ _ I (lv_sub hl [2, 1, 0] rfl) (fu1_lt _) (hE.trans (rfl))
noncomputable def f11_feed (σ : SI) (x1 : Int32) (x2 : Int32) (x3 : Int32) (x4 : Int32) (x5 : Int32) : Int32 × SI := if (((((f11_signsIn x1) + (f11_signsIn x2)) + (f11_signsIn x3)) + (f11_signsIn x4)) + (f11_signsIn x5)) ≤ ((240 : Int32) - (f7_size σ)) then (let s0 := (f7_append σ x1); let s1 := (f7_append s0 x2); let s2 := (f7_append s1 x3); let s3 := (f7_append s2 x4); let s4 := (f7_append s3 x5); ((f7_size s4), s4)) else ((-1 : Int32), σ)
theorem w_f11_feed (σ : SI) (x1 : Int32) (x2 : Int32) (x3 : Int32) (x4 : Int32) (x5 : Int32) (a : Nat) (h0 : a ≠ 1) (h1 : a ≠ 2) : (f11_feed σ x1 x2 x3 x4 x5).2 a = σ a := by
  refine fp_to2 ?_
  unfold f11_feed
  exact (fr_ite2 (fr_mk21 ((w_f7_append _ _ a h0 h1).trans ((w_f7_append _ _ a h0 h1).trans ((w_f7_append _ _ a h0 h1).trans ((w_f7_append _ _ a h0 h1).trans (w_f7_append _ _ a h0 h1)))))) (fr_mk21 rfl))
set_option maxHeartbeats 4000000 in
set_option maxRecDepth 100000 in
theorem c11_feed (l : Launch) (G : GT) (σ : SI) (τ : SL) (x1 : Int32) (x2 : Int32) (x3 : Int32) (x4 : Int32) (x5 : Int32) : Mc l yX11_feed cX11_feed 7 (some .int) 1 G [.ref (G.2.1 0), .int x1, .int x2, .int x3, .int x4, .int x5] σ τ (Qi G (Ei (f11_feed σ x1 x2 x3 x4 x5).1 (f11_feed σ x1 x2 x3 x4 x5).2 τ)) := by
  refine m_start (by decide +kernel) (Nat.le_of_ble_eq_true rfl) rfl (fun p e s m args below meth c ls X I hl => ?_)
  have hl : lv_has ls 7 [(0, .ref (G.2.1 0)), (1, .int x1), (2, .int x2), (3, .int x3), (4, .int x4), (5, .int x5)] := hl
  obtain ⟨E, hE⟩ : ∃ E, E = (f11_feed σ x1 x2 x3 x4 x5) := ⟨_, rfl⟩
  rw [← hE]
  refine lv_iload_n X.1 X.2.1 dX11_feed_0 rfl (lv_at hl 1 rfl) ?_
  refine r_ei I (r_runS X I pk_X11_signsIn (c11_signsIn l G _ _ _) lm_X11_100 rfl hl.1 rfl (Nat.le_of_ble_eq_true rfl) dX11_feed_1 ⟨Nat.le_of_ble_eq_true rfl, Nat.le_of_ble_eq_true rfl⟩ ⟨Nat.le_refl 0, Nat.le_refl 0⟩) (fun H locs I => ?_)
  refine lv_iload_n X.1 X.2.1 dX11_feed_4 rfl (lv_at hl 2 rfl) ?_
  refine r_ei I (r_runS X I pk_X11_signsIn (c11_signsIn l G _ _ _) lm_X11_100 rfl hl.1 rfl (Nat.le_of_ble_eq_true rfl) dX11_feed_5 ⟨Nat.le_of_ble_eq_true rfl, Nat.le_of_ble_eq_true rfl⟩ ⟨Nat.le_refl 0, Nat.le_refl 0⟩) (fun H locs I => ?_)
  refine lv_iadd X.1 X.2.1 dX11_feed_8 ?_
  refine lv_iload_n X.1 X.2.1 dX11_feed_9 rfl (lv_at hl 3 rfl) ?_
  refine r_ei I (r_runS X I pk_X11_signsIn (c11_signsIn l G _ _ _) lm_X11_100 rfl hl.1 rfl (Nat.le_of_ble_eq_true rfl) dX11_feed_10 ⟨Nat.le_of_ble_eq_true rfl, Nat.le_of_ble_eq_true rfl⟩ ⟨Nat.le_refl 0, Nat.le_refl 0⟩) (fun H locs I => ?_)
  refine lv_iadd X.1 X.2.1 dX11_feed_13 ?_
  refine lv_iload X.1 X.2.1 dX11_feed_14 (lv_at hl 4 rfl) ?_
  refine r_ei I (r_runS X I pk_X11_signsIn (c11_signsIn l G _ _ _) lm_X11_100 rfl hl.1 rfl (Nat.le_of_ble_eq_true rfl) dX11_feed_16 ⟨Nat.le_of_ble_eq_true rfl, Nat.le_of_ble_eq_true rfl⟩ ⟨Nat.le_refl 0, Nat.le_refl 0⟩) (fun H locs I => ?_)
  refine lv_iadd X.1 X.2.1 dX11_feed_19 ?_
  refine lv_iload X.1 X.2.1 dX11_feed_20 (lv_at hl 5 rfl) ?_
  refine r_ei I (r_runS X I pk_X11_signsIn (c11_signsIn l G _ _ _) lm_X11_100 rfl hl.1 rfl (Nat.le_of_ble_eq_true rfl) dX11_feed_22 ⟨Nat.le_of_ble_eq_true rfl, Nat.le_of_ble_eq_true rfl⟩ ⟨Nat.le_refl 0, Nat.le_refl 0⟩) (fun H locs I => ?_)
  refine lv_iadd X.1 X.2.1 dX11_feed_25 ?_
  refine lv_istore (lv' := [(6, .int _), (0, .ref _), (1, .int _), (2, .int _), (3, .int _), (4, .int _), (5, .int _)]) X.1 X.2.1 dX11_feed_26 hl (by decide) rfl (fun ls hl => ?_)
  refine lv_iload X.1 X.2.1 dX11_feed_28 (lv_at hl 0 rfl) ?_
  refine lv_sipush (v := 240) X.1 X.2.1 dX11_feed_30 (by decide) ?_
  refine lv_aload_n X.1 X.2.1 dX11_feed_33 rfl (lv_at hl 1 rfl) ?_
  refine g11_0 X I (k := 0) (by decide) rfl lf_X11_12 dX11_feed_34 ?_
  refine r_ei I (r_runV X I pk_X7_size (c7_size l G _ _) lm_X11_104 (by decide) (cl_7 rfl) rfl rfl rfl hl.1 rfl (Nat.le_of_ble_eq_true rfl) dX11_feed_37 ⟨Nat.le_of_ble_eq_true rfl, Nat.le_of_ble_eq_true rfl⟩ ⟨Nat.le_refl 0, Nat.le_refl 0⟩) (fun H locs I => ?_)
  refine lv_isub X.1 X.2.1 dX11_feed_40 ?_
  refine lv_icmp_le (tgt := 46) X.1 X.2.1 dX11_feed_41 (by decide) (fun c_1 => ?_) (fun c_1 => ?_)
  · skip
    have hE := ite_t hE c_1
    refine lv_aload_n X.1 X.2.1 dX11_feed_46 rfl (lv_at hl 1 rfl) ?_
    refine g11_0 X I (k := 0) (by decide) rfl lf_X11_12 dX11_feed_47 ?_
    refine lv_iload_n X.1 X.2.1 dX11_feed_50 rfl (lv_at hl 2 rfl) ?_
    refine r_ev I (r_runV X I pk_X7_append (c7_append l G _ _ _) lm_X11_108 (by decide) (cl_7 rfl) rfl rfl rfl hl.1 rfl (Nat.le_of_ble_eq_true rfl) dX11_feed_51 ⟨Nat.le_of_ble_eq_true rfl, Nat.le_of_ble_eq_true rfl⟩ ⟨Nat.le_refl 0, Nat.le_refl 0⟩) (fun H locs I => ?_)
    refine lv_aload_n X.1 X.2.1 dX11_feed_54 rfl (lv_at hl 1 rfl) ?_
    refine g11_0 X I (k := 0) (by decide) rfl lf_X11_12 dX11_feed_55 ?_
    refine lv_iload_n X.1 X.2.1 dX11_feed_58 rfl (lv_at hl 3 rfl) ?_
    refine r_ev I (r_runV X I pk_X7_append (c7_append l G _ _ _) lm_X11_108 (by decide) (cl_7 rfl) rfl rfl rfl hl.1 rfl (Nat.le_of_ble_eq_true rfl) dX11_feed_59 ⟨Nat.le_of_ble_eq_true rfl, Nat.le_of_ble_eq_true rfl⟩ ⟨Nat.le_refl 0, Nat.le_refl 0⟩) (fun H locs I => ?_)
    refine lv_aload_n X.1 X.2.1 dX11_feed_62 rfl (lv_at hl 1 rfl) ?_
    refine g11_0 X I (k := 0) (by decide) rfl lf_X11_12 dX11_feed_63 ?_
    refine lv_iload_n X.1 X.2.1 dX11_feed_66 rfl (lv_at hl 4 rfl) ?_
    refine r_ev I (r_runV X I pk_X7_append (c7_append l G _ _ _) lm_X11_108 (by decide) (cl_7 rfl) rfl rfl rfl hl.1 rfl (Nat.le_of_ble_eq_true rfl) dX11_feed_67 ⟨Nat.le_of_ble_eq_true rfl, Nat.le_of_ble_eq_true rfl⟩ ⟨Nat.le_refl 0, Nat.le_refl 0⟩) (fun H locs I => ?_)
    refine lv_aload_n X.1 X.2.1 dX11_feed_70 rfl (lv_at hl 1 rfl) ?_
    refine g11_0 X I (k := 0) (by decide) rfl lf_X11_12 dX11_feed_71 ?_
    refine lv_iload X.1 X.2.1 dX11_feed_74 (lv_at hl 5 rfl) ?_
    refine r_ev I (r_runV X I pk_X7_append (c7_append l G _ _ _) lm_X11_108 (by decide) (cl_7 rfl) rfl rfl rfl hl.1 rfl (Nat.le_of_ble_eq_true rfl) dX11_feed_76 ⟨Nat.le_of_ble_eq_true rfl, Nat.le_of_ble_eq_true rfl⟩ ⟨Nat.le_refl 0, Nat.le_refl 0⟩) (fun H locs I => ?_)
    refine lv_aload_n X.1 X.2.1 dX11_feed_79 rfl (lv_at hl 1 rfl) ?_
    refine g11_0 X I (k := 0) (by decide) rfl lf_X11_12 dX11_feed_80 ?_
    refine lv_iload X.1 X.2.1 dX11_feed_83 (lv_at hl 6 rfl) ?_
    refine r_ev I (r_runV X I pk_X7_append (c7_append l G _ _ _) lm_X11_108 (by decide) (cl_7 rfl) rfl rfl rfl hl.1 rfl (Nat.le_of_ble_eq_true rfl) dX11_feed_85 ⟨Nat.le_of_ble_eq_true rfl, Nat.le_of_ble_eq_true rfl⟩ ⟨Nat.le_refl 0, Nat.le_refl 0⟩) (fun H locs I => ?_)
    refine lv_aload_n X.1 X.2.1 dX11_feed_88 rfl (lv_at hl 1 rfl) ?_
    refine g11_0 X I (k := 0) (by decide) rfl lf_X11_12 dX11_feed_89 ?_
    refine r_ei I (r_runV X I pk_X7_size (c7_size l G _ _) lm_X11_104 (by decide) (cl_7 rfl) rfl rfl rfl hl.1 rfl (Nat.le_of_ble_eq_true rfl) dX11_feed_92 ⟨Nat.le_of_ble_eq_true rfl, Nat.le_of_ble_eq_true rfl⟩ ⟨Nat.le_refl 0, Nat.le_refl 0⟩) (fun H locs I => ?_)
    have h9 := hE
    exact r_iret X I (e_i (pr_fst h9) (pr_snd h9) rfl) dX11_feed_95
  · skip
    have hE := ite_f hE c_1
    refine lv_iconst (v := (-1)) X.1 X.2.1 dX11_feed_44 (by decide) ?_
    have h9 := hE
    exact r_iret X I (e_i (pr_fst h9) (pr_snd h9) rfl) dX11_feed_45
