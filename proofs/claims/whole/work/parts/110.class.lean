noncomputable def f4_stay (σ : SI) (x1 : Int32) (x2 : Int32) (x3 : Int32) (x4 : Int32) : SI := let s0 := sp σ 32 3 x1; let s1 := sp s0 32 4 x2; let s2 := sp s1 32 5 x3; let s3 := sp s2 32 6 x4; s3
theorem w_f4_stay (σ : SI) (x1 : Int32) (x2 : Int32) (x3 : Int32) (x4 : Int32) (a : Nat) (h0 : a ≠ 32) : (f4_stay σ x1 x2 x3 x4) a = σ a := by
  unfold f4_stay
  exact ((sp_n h0).trans ((sp_n h0).trans ((sp_n h0).trans (sp_n h0))))
set_option maxHeartbeats 4000000 in
set_option maxRecDepth 100000 in
theorem c4_stay (l : Launch) (G : GT) (σ : SI) (τ : SL) (x1 : Int32) (x2 : Int32) (x3 : Int32) (x4 : Int32) : Mc l yX4_stay cX4_stay 5 none 0 G [.ref (G.2.1 32), .int x1, .int x2, .int x3, .int x4] σ τ (Qv G (Ev (f4_stay σ x1 x2 x3 x4) τ)) := by
  refine m_start (by decide +kernel) (Nat.le_of_ble_eq_true rfl) rfl (fun p e s m args below meth c ls X I hl => ?_)
  have hl : lv_has ls 5 [(0, .ref (G.2.1 32)), (1, .int x1), (2, .int x2), (3, .int x3), (4, .int x4)] := hl
  obtain ⟨E, hE⟩ : ∃ E, E = (f4_stay σ x1 x2 x3 x4) := ⟨_, rfl⟩
  rw [← hE]
  refine lv_aload_n X.1 X.2.1 dX4_stay_0 rfl (lv_at hl 0 rfl) ?_
  refine lv_iload_n X.1 X.2.1 dX4_stay_1 rfl (lv_at hl 1 rfl) ?_
  refine p4_3 X I (k := 32) (by decide) rfl lf_X4_42 dX4_stay_2 (fun H locs I => ?_)
  refine lv_aload_n X.1 X.2.1 dX4_stay_5 rfl (lv_at hl 0 rfl) ?_
  refine lv_iload_n X.1 X.2.1 dX4_stay_6 rfl (lv_at hl 2 rfl) ?_
  refine p4_4 X I (k := 32) (by decide) rfl lf_X4_43 dX4_stay_7 (fun H locs I => ?_)
  refine lv_aload_n X.1 X.2.1 dX4_stay_10 rfl (lv_at hl 0 rfl) ?_
  refine lv_iload_n X.1 X.2.1 dX4_stay_11 rfl (lv_at hl 3 rfl) ?_
  refine p4_5 X I (k := 32) (by decide) rfl lf_X4_44 dX4_stay_12 (fun H locs I => ?_)
  refine lv_aload_n X.1 X.2.1 dX4_stay_15 rfl (lv_at hl 0 rfl) ?_
  refine lv_iload X.1 X.2.1 dX4_stay_16 (lv_at hl 4 rfl) ?_
  refine p4_6 X I (k := 32) (by decide) rfl lf_X4_45 dX4_stay_18 (fun H locs I => ?_)
  have h9 := hE
  exact r_vret X I (e_v h9.symm rfl) dX4_stay_21
noncomputable def f4_setOut (σ : SI) : SI := let s0 := (f4_stay σ (σ 24 4) (σ 24 2) (σ 24 3) (σ 24 5)); s0
theorem w_f4_setOut (σ : SI) (a : Nat) (h0 : a ≠ 32) : (f4_setOut σ) a = σ a := by
  unfold f4_setOut
  exact (w_f4_stay _ _ _ _ _ a h0)
set_option maxHeartbeats 4000000 in
set_option maxRecDepth 100000 in
theorem c4_setOut (l : Launch) (G : GT) (σ : SI) (τ : SL) : Mc l yX4_setOut cX4_setOut 1 none 1 G [.ref (G.2.1 32)] σ τ (Qv G (Ev (f4_setOut σ) τ)) := by
  refine m_start (by decide +kernel) (Nat.le_of_ble_eq_true rfl) rfl (fun p e s m args below meth c ls X I hl => ?_)
  have hl : lv_has ls 1 [(0, .ref (G.2.1 32))] := hl
  obtain ⟨E, hE⟩ : ∃ E, E = (f4_setOut σ) := ⟨_, rfl⟩
  rw [← hE]
  refine lv_aload_n X.1 X.2.1 dX4_setOut_0 rfl (lv_at hl 0 rfl) ?_
  refine lv_aload_n X.1 X.2.1 dX4_setOut_1 rfl (lv_at hl 0 rfl) ?_
  refine g4_2 X I (k := 32) (by decide) rfl lf_X4_19 dX4_setOut_2 ?_
  refine g0_4 X I (k := 24) (by decide) rfl lf_X4_23 dX4_setOut_5 ?_
  refine lv_aload_n X.1 X.2.1 dX4_setOut_8 rfl (lv_at hl 0 rfl) ?_
  refine g4_2 X I (k := 32) (by decide) rfl lf_X4_19 dX4_setOut_9 ?_
  refine g0_2 X I (k := 24) (by decide) rfl lf_X4_29 dX4_setOut_12 ?_
  refine lv_aload_n X.1 X.2.1 dX4_setOut_15 rfl (lv_at hl 0 rfl) ?_
  refine g4_2 X I (k := 32) (by decide) rfl lf_X4_19 dX4_setOut_16 ?_
  refine g0_3 X I (k := 24) (by decide) rfl lf_X4_32 dX4_setOut_19 ?_
  refine lv_aload_n X.1 X.2.1 dX4_setOut_22 rfl (lv_at hl 0 rfl) ?_
  refine g4_2 X I (k := 32) (by decide) rfl lf_X4_19 dX4_setOut_23 ?_
  refine g0_5 X I (k := 24) (by decide) rfl lf_X4_35 dX4_setOut_26 ?_
  refine r_ev I (r_runV X I pk_X4_stay (c4_stay l G _ _ _ _ _ _) lm_X4_38 (by decide) (cl_4 rfl) rfl rfl rfl hl.1 rfl (Nat.le_of_ble_eq_true rfl) dX4_setOut_29 ⟨Nat.le_of_ble_eq_true rfl, Nat.le_of_ble_eq_true rfl⟩ ⟨Nat.le_refl 0, Nat.le_refl 0⟩) (fun H locs I => ?_)
  have h9 := hE
  exact r_vret X I (e_v h9.symm rfl) dX4_setOut_32
noncomputable def f8_xOf (k : Nat) (σ : SI) (x1 : Int32) : Int32 := (f8_ofHouse k σ x1 (0 : Int32))
set_option maxHeartbeats 4000000 in
set_option maxRecDepth 100000 in
theorem c8_xOf (l : Launch) (G : GT) {k : Nat} (hk : isTown k) (σ : SI) (τ : SL) (x1 : Int32) : Mc l yX8_xOf cX8_xOf 2 (some .int) 1 G [.ref (G.2.1 k), .int x1] σ τ (Qi G (Ei (f8_xOf k σ x1) σ τ)) := by
  refine m_start (by decide +kernel) (Nat.le_of_ble_eq_true rfl) rfl (fun p e s m args below meth c ls X I hl => ?_)
  have hl : lv_has ls 2 [(0, .ref (G.2.1 k)), (1, .int x1)] := hl
  obtain ⟨E, hE⟩ : ∃ E, E = (f8_xOf k σ x1) := ⟨_, rfl⟩
  rw [← hE]
  refine lv_aload_n X.1 X.2.1 dX8_xOf_0 rfl (lv_at hl 0 rfl) ?_
  refine lv_iload_n X.1 X.2.1 dX8_xOf_1 rfl (lv_at hl 1 rfl) ?_
  refine lv_iconst (v := 0) X.1 X.2.1 dX8_xOf_2 (by decide) ?_
  refine r_ei I (r_runV X I pk_X8_ofHouse (c8_ofHouse l G (k := k) hk _ _ _ _) lm_X8_69 (Nat.lt_of_le_of_lt (Nat.add_le_add_left (show 0 ≤ 2 by decide) k) hk.1) (cl_8 hk.2.1) rfl rfl rfl hl.1 rfl (Nat.le_of_ble_eq_true rfl) dX8_xOf_3 ⟨Nat.le_of_ble_eq_true rfl, Nat.le_of_ble_eq_true rfl⟩ ⟨Nat.le_refl 0, Nat.le_refl 0⟩) (fun H locs I => ?_)
  have h9 := hE
  exact r_iret X I (e_i h9.symm rfl rfl) dX8_xOf_6
noncomputable def f8_yOf (k : Nat) (σ : SI) (x1 : Int32) : Int32 := (f8_ofHouse k σ x1 (1 : Int32))
set_option maxHeartbeats 4000000 in
set_option maxRecDepth 100000 in
theorem c8_yOf (l : Launch) (G : GT) {k : Nat} (hk : isTown k) (σ : SI) (τ : SL) (x1 : Int32) : Mc l yX8_yOf cX8_yOf 2 (some .int) 1 G [.ref (G.2.1 k), .int x1] σ τ (Qi G (Ei (f8_yOf k σ x1) σ τ)) := by
  refine m_start (by decide +kernel) (Nat.le_of_ble_eq_true rfl) rfl (fun p e s m args below meth c ls X I hl => ?_)
  have hl : lv_has ls 2 [(0, .ref (G.2.1 k)), (1, .int x1)] := hl
  obtain ⟨E, hE⟩ : ∃ E, E = (f8_yOf k σ x1) := ⟨_, rfl⟩
  rw [← hE]
  refine lv_aload_n X.1 X.2.1 dX8_yOf_0 rfl (lv_at hl 0 rfl) ?_
  refine lv_iload_n X.1 X.2.1 dX8_yOf_1 rfl (lv_at hl 1 rfl) ?_
  refine lv_iconst (v := 1) X.1 X.2.1 dX8_yOf_2 (by decide) ?_
  refine r_ei I (r_runV X I pk_X8_ofHouse (c8_ofHouse l G (k := k) hk _ _ _ _) lm_X8_69 (Nat.lt_of_le_of_lt (Nat.add_le_add_left (show 0 ≤ 2 by decide) k) hk.1) (cl_8 hk.2.1) rfl rfl rfl hl.1 rfl (Nat.le_of_ble_eq_true rfl) dX8_yOf_3 ⟨Nat.le_of_ble_eq_true rfl, Nat.le_of_ble_eq_true rfl⟩ ⟨Nat.le_refl 0, Nat.le_refl 0⟩) (fun H locs I => ?_)
  have h9 := hE
  exact r_iret X I (e_i h9.symm rfl rfl) dX8_yOf_6
noncomputable def f8_distance (k : Nat) (σ : SI) (x1 : Int32) (x2 : Int32) : Int32 := ((if 0 ≤ ((f8_xOf k σ x1) - (f8_xOf k σ x2)) then ((f8_xOf k σ x1) - (f8_xOf k σ x2)) else 0 - ((f8_xOf k σ x1) - (f8_xOf k σ x2))) + (if 0 ≤ ((f8_yOf k σ x1) - (f8_yOf k σ x2)) then ((f8_yOf k σ x1) - (f8_yOf k σ x2)) else 0 - ((f8_yOf k σ x1) - (f8_yOf k σ x2))))
set_option maxHeartbeats 4000000 in
set_option maxRecDepth 100000 in
theorem c8_distance (l : Launch) (G : GT) {k : Nat} (hk : isTown k) (σ : SI) (τ : SL) (x1 : Int32) (x2 : Int32) : Mc l yX8_distance cX8_distance 3 (some .int) 2 G [.ref (G.2.1 k), .int x1, .int x2] σ τ (Qi G (Ei (f8_distance k σ x1 x2) σ τ)) := by
  refine m_start (by decide +kernel) (Nat.le_of_ble_eq_true rfl) rfl (fun p e s m args below meth c ls X I hl => ?_)
  have hl : lv_has ls 3 [(0, .ref (G.2.1 k)), (1, .int x1), (2, .int x2)] := hl
  obtain ⟨E, hE⟩ : ∃ E, E = (f8_distance k σ x1 x2) := ⟨_, rfl⟩
  rw [← hE]
  refine lv_aload_n X.1 X.2.1 dX8_distance_0 rfl (lv_at hl 0 rfl) ?_
  refine lv_iload_n X.1 X.2.1 dX8_distance_1 rfl (lv_at hl 1 rfl) ?_
  refine r_ei I (r_runV X I pk_X8_xOf (c8_xOf l G (k := k) hk _ _ _) lm_X8_72 (Nat.lt_of_le_of_lt (Nat.add_le_add_left (show 0 ≤ 2 by decide) k) hk.1) (cl_8 hk.2.1) rfl rfl rfl hl.1 rfl (Nat.le_of_ble_eq_true rfl) dX8_distance_2 ⟨Nat.le_of_ble_eq_true rfl, Nat.le_of_ble_eq_true rfl⟩ ⟨Nat.le_refl 0, Nat.le_refl 0⟩) (fun H locs I => ?_)
  refine lv_aload_n X.1 X.2.1 dX8_distance_5 rfl (lv_at hl 0 rfl) ?_
  refine lv_iload_n X.1 X.2.1 dX8_distance_6 rfl (lv_at hl 2 rfl) ?_
  refine r_ei I (r_runV X I pk_X8_xOf (c8_xOf l G (k := k) hk _ _ _) lm_X8_72 (Nat.lt_of_le_of_lt (Nat.add_le_add_left (show 0 ≤ 2 by decide) k) hk.1) (cl_8 hk.2.1) rfl rfl rfl hl.1 rfl (Nat.le_of_ble_eq_true rfl) dX8_distance_7 ⟨Nat.le_of_ble_eq_true rfl, Nat.le_of_ble_eq_true rfl⟩ ⟨Nat.le_refl 0, Nat.le_refl 0⟩) (fun H locs I => ?_)
  refine lv_isub X.1 X.2.1 dX8_distance_10 ?_
  refine r_mabs X hl.1 lm_X8_76 ls_J9_abs_0f7a4 ln_J9 lc_J9_abs_0f7a4 (Nat.le_of_ble_eq_true rfl) (Nat.le_of_ble_eq_true rfl) (Nat.le_refl 0) (Nat.le_refl 0) dX8_distance_11 ?_
  refine lv_aload_n X.1 X.2.1 dX8_distance_14 rfl (lv_at hl 0 rfl) ?_
  refine lv_iload_n X.1 X.2.1 dX8_distance_15 rfl (lv_at hl 1 rfl) ?_
  refine r_ei I (r_runV X I pk_X8_yOf (c8_yOf l G (k := k) hk _ _ _) lm_X8_81 (Nat.lt_of_le_of_lt (Nat.add_le_add_left (show 0 ≤ 2 by decide) k) hk.1) (cl_8 hk.2.1) rfl rfl rfl hl.1 rfl (Nat.le_of_ble_eq_true rfl) dX8_distance_16 ⟨Nat.le_of_ble_eq_true rfl, Nat.le_of_ble_eq_true rfl⟩ ⟨Nat.le_refl 0, Nat.le_refl 0⟩) (fun H locs I => ?_)
  refine lv_aload_n X.1 X.2.1 dX8_distance_19 rfl (lv_at hl 0 rfl) ?_
  refine lv_iload_n X.1 X.2.1 dX8_distance_20 rfl (lv_at hl 2 rfl) ?_
  refine r_ei I (r_runV X I pk_X8_yOf (c8_yOf l G (k := k) hk _ _ _) lm_X8_81 (Nat.lt_of_le_of_lt (Nat.add_le_add_left (show 0 ≤ 2 by decide) k) hk.1) (cl_8 hk.2.1) rfl rfl rfl hl.1 rfl (Nat.le_of_ble_eq_true rfl) dX8_distance_21 ⟨Nat.le_of_ble_eq_true rfl, Nat.le_of_ble_eq_true rfl⟩ ⟨Nat.le_refl 0, Nat.le_refl 0⟩) (fun H locs I => ?_)
  refine lv_isub X.1 X.2.1 dX8_distance_24 ?_
  refine r_mabs X hl.1 lm_X8_76 ls_J9_abs_0f7a4 ln_J9 lc_J9_abs_0f7a4 (Nat.le_of_ble_eq_true rfl) (Nat.le_of_ble_eq_true rfl) (Nat.le_refl 0) (Nat.le_refl 0) dX8_distance_25 ?_
  refine lv_iadd X.1 X.2.1 dX8_distance_28 ?_
  have h9 := hE
  exact r_iret X I (e_i h9.symm rfl rfl) dX8_distance_29
noncomputable def f8_houses (k : Nat) (σ : SI) : Int32 := (f11_cell (k + 2) 3 σ (1 : Int32))
set_option maxHeartbeats 4000000 in
set_option maxRecDepth 100000 in
theorem c8_houses (l : Launch) (G : GT) {k : Nat} (hk : isTown k) (σ : SI) (τ : SL) : Mc l yX8_houses cX8_houses 1 (some .int) 1 G [.ref (G.2.1 k)] σ τ (Qi G (Ei (f8_houses k σ) σ τ)) := by
  refine m_start (by decide +kernel) (Nat.le_of_ble_eq_true rfl) rfl (fun p e s m args below meth c ls X I hl => ?_)
  have hl : lv_has ls 1 [(0, .ref (G.2.1 k))] := hl
  obtain ⟨E, hE⟩ : ∃ E, E = (f8_houses k σ) := ⟨_, rfl⟩
  rw [← hE]
  refine lv_aload_n X.1 X.2.1 dX8_houses_0 rfl (lv_at hl 0 rfl) ?_
  refine g8_1 X I (k := k) (Nat.lt_of_le_of_lt (Nat.add_le_add_left (show 0 ≤ 2 by decide) k) hk.1) hk.2.1 lf_X8_15 dX8_houses_1 ?_
  refine lv_iconst (v := 1) X.1 X.2.1 dX8_houses_4 (by decide) ?_
  refine r_ei I (r_runN X I pk_X11_cell (c11_cell l G (k := (k + 2)) (n := 3) (Nat.lt_of_le_of_lt (Nat.add_le_add_left (show 2 ≤ 2 by decide) k) hk.1) hk.2.2.2 (by decide) _ _ _) (by decide +kernel) rfl hl.1 rfl (Nat.le_of_ble_eq_true rfl) dX8_houses_5 ⟨Nat.le_of_ble_eq_true rfl, Nat.le_of_ble_eq_true rfl⟩ ⟨Nat.le_refl 0, Nat.le_refl 0⟩) (fun H locs I => ?_)
  have h9 := hE
  exact r_iret X I (e_i h9.symm rfl rfl) dX8_houses_8
noncomputable def f8_isHouse (k : Nat) (σ : SI) (x1 : Int32) : Bool := if x1 < (0 : Int32) then false else (if (f8_houses k σ) ≤ x1 then false else true)
set_option maxHeartbeats 4000000 in
set_option maxRecDepth 100000 in
theorem c8_isHouse (l : Launch) (G : GT) {k : Nat} (hk : isTown k) (σ : SI) (τ : SL) (x1 : Int32) : Mc l yX8_isHouse cX8_isHouse 2 (some .boolean) 2 G [.ref (G.2.1 k), .int x1] σ τ (Qi G (Ei (b2i (f8_isHouse k σ x1)) σ τ)) := by
  refine m_start (by decide +kernel) (Nat.le_of_ble_eq_true rfl) rfl (fun p e s m args below meth c ls X I hl => ?_)
  have hl : lv_has ls 2 [(0, .ref (G.2.1 k)), (1, .int x1)] := hl
  obtain ⟨E, hE⟩ : ∃ E, E = (f8_isHouse k σ x1) := ⟨_, rfl⟩
  rw [← hE]
  refine lv_iload_n X.1 X.2.1 dX8_isHouse_0 rfl (lv_at hl 1 rfl) ?_
  refine lv_if_lt (tgt := 16) X.1 X.2.1 dX8_isHouse_1 (by decide) (fun c_1 => ?_) (fun c_1 => ?_)
  · skip
    have hE := ite_t hE c_1
    refine lv_iconst (v := 0) X.1 X.2.1 dX8_isHouse_16 (by decide) ?_
    have h9 := hE
    exact r_zret X I rfl (e_i (congrArg b2i h9).symm rfl rfl) dX8_isHouse_17
  · skip
    have hE := ite_f hE c_1
    refine lv_iload_n X.1 X.2.1 dX8_isHouse_4 rfl (lv_at hl 1 rfl) ?_
    refine lv_aload_n X.1 X.2.1 dX8_isHouse_5 rfl (lv_at hl 0 rfl) ?_
    refine r_ei I (r_runV X I pk_X8_houses (c8_houses l G (k := k) hk _ _) lm_X8_54 (Nat.lt_of_le_of_lt (Nat.add_le_add_left (show 0 ≤ 2 by decide) k) hk.1) (cl_8 hk.2.1) rfl rfl rfl hl.1 rfl (Nat.le_of_ble_eq_true rfl) dX8_isHouse_6 ⟨Nat.le_of_ble_eq_true rfl, Nat.le_of_ble_eq_true rfl⟩ ⟨Nat.le_refl 0, Nat.le_refl 0⟩) (fun H locs I => ?_)
    refine lv_icmp_ge (tgt := 16) X.1 X.2.1 dX8_isHouse_9 (by decide) (fun c_2 => ?_) (fun c_2 => ?_)
    · skip
      have hE := ite_t hE c_2
      refine lv_iconst (v := 0) X.1 X.2.1 dX8_isHouse_16 (by decide) ?_
      have h9 := hE
      exact r_zret X I rfl (e_i (congrArg b2i h9).symm rfl rfl) dX8_isHouse_17
    · skip
      have hE := ite_f hE c_2
      refine lv_iconst (v := 1) X.1 X.2.1 dX8_isHouse_12 (by decide) ?_
      refine lv_goto (tgt := 17) X.1 X.2.1 dX8_isHouse_13 (by decide) ?_
      have h9 := hE
      exact r_zret X I rfl (e_i (congrArg b2i h9).symm rfl rfl) dX8_isHouse_17
noncomputable def f8_isThankful (k : Nat) (σ : SI) (x1 : Int32) : Bool := if (f8_ofHouse k σ x1 (3 : Int32)) = (1 : Int32) then true else false
set_option maxHeartbeats 4000000 in
set_option maxRecDepth 100000 in
theorem c8_isThankful (l : Launch) (G : GT) {k : Nat} (hk : isTown k) (σ : SI) (τ : SL) (x1 : Int32) : Mc l yX8_isThankful cX8_isThankful 2 (some .boolean) 1 G [.ref (G.2.1 k), .int x1] σ τ (Qi G (Ei (b2i (f8_isThankful k σ x1)) σ τ)) := by
  refine m_start (by decide +kernel) (Nat.le_of_ble_eq_true rfl) rfl (fun p e s m args below meth c ls X I hl => ?_)
  have hl : lv_has ls 2 [(0, .ref (G.2.1 k)), (1, .int x1)] := hl
  obtain ⟨E, hE⟩ : ∃ E, E = (f8_isThankful k σ x1) := ⟨_, rfl⟩
  rw [← hE]
  refine lv_aload_n X.1 X.2.1 dX8_isThankful_0 rfl (lv_at hl 0 rfl) ?_
  refine lv_iload_n X.1 X.2.1 dX8_isThankful_1 rfl (lv_at hl 1 rfl) ?_
  refine lv_iconst (v := 3) X.1 X.2.1 dX8_isThankful_2 (by decide) ?_
  refine r_ei I (r_runV X I pk_X8_ofHouse (c8_ofHouse l G (k := k) hk _ _ _ _) lm_X8_69 (Nat.lt_of_le_of_lt (Nat.add_le_add_left (show 0 ≤ 2 by decide) k) hk.1) (cl_8 hk.2.1) rfl rfl rfl hl.1 rfl (Nat.le_of_ble_eq_true rfl) dX8_isThankful_3 ⟨Nat.le_of_ble_eq_true rfl, Nat.le_of_ble_eq_true rfl⟩ ⟨Nat.le_refl 0, Nat.le_refl 0⟩) (fun H locs I => ?_)
  refine lv_iconst (v := 1) X.1 X.2.1 dX8_isThankful_6 (by decide) ?_
  refine lv_icmp_ne (tgt := 14) X.1 X.2.1 dX8_isThankful_7 (by decide) (fun c_1 => ?_) (fun c_1 => ?_)
  · skip
    have hE := ite_f hE c_1
    refine lv_iconst (v := 0) X.1 X.2.1 dX8_isThankful_14 (by decide) ?_
    have h9 := hE
    exact r_zret X I rfl (e_i (congrArg b2i h9).symm rfl rfl) dX8_isThankful_15
  · skip
    have hE := ite_t hE c_1
    refine lv_iconst (v := 1) X.1 X.2.1 dX8_isThankful_10 (by decide) ?_
    refine lv_goto (tgt := 15) X.1 X.2.1 dX8_isThankful_11 (by decide) ?_
    have h9 := hE
    exact r_zret X I rfl (e_i (congrArg b2i h9).symm rfl rfl) dX8_isThankful_15
noncomputable def f8_bearers (k : Nat) (σ : SI) : Int32 := (f11_cell (k + 2) 3 σ (2 : Int32))
set_option maxHeartbeats 4000000 in
set_option maxRecDepth 100000 in
theorem c8_bearers (l : Launch) (G : GT) {k : Nat} (hk : isTown k) (σ : SI) (τ : SL) : Mc l yX8_bearers cX8_bearers 1 (some .int) 1 G [.ref (G.2.1 k)] σ τ (Qi G (Ei (f8_bearers k σ) σ τ)) := by
  refine m_start (by decide +kernel) (Nat.le_of_ble_eq_true rfl) rfl (fun p e s m args below meth c ls X I hl => ?_)
  have hl : lv_has ls 1 [(0, .ref (G.2.1 k))] := hl
  obtain ⟨E, hE⟩ : ∃ E, E = (f8_bearers k σ) := ⟨_, rfl⟩
  rw [← hE]
  refine lv_aload_n X.1 X.2.1 dX8_bearers_0 rfl (lv_at hl 0 rfl) ?_
  refine g8_1 X I (k := k) (Nat.lt_of_le_of_lt (Nat.add_le_add_left (show 0 ≤ 2 by decide) k) hk.1) hk.2.1 lf_X8_15 dX8_bearers_1 ?_
  refine lv_iconst (v := 2) X.1 X.2.1 dX8_bearers_4 (by decide) ?_
  refine r_ei I (r_runN X I pk_X11_cell (c11_cell l G (k := (k + 2)) (n := 3) (Nat.lt_of_le_of_lt (Nat.add_le_add_left (show 2 ≤ 2 by decide) k) hk.1) hk.2.2.2 (by decide) _ _ _) (by decide +kernel) rfl hl.1 rfl (Nat.le_of_ble_eq_true rfl) dX8_bearers_5 ⟨Nat.le_of_ble_eq_true rfl, Nat.le_of_ble_eq_true rfl⟩ ⟨Nat.le_refl 0, Nat.le_refl 0⟩) (fun H locs I => ?_)
  have h9 := hE
  exact r_iret X I (e_i h9.symm rfl rfl) dX8_bearers_8
noncomputable def f8_strengthOf (k : Nat) (σ : SI) (x1 : Int32) : Int32 := if x1 < (0 : Int32) then (0 : Int32) else (if (f8_bearers k σ) ≤ x1 then (0 : Int32) else (f11_cell (k + 1) 36 σ ((31 : Int32) + x1)))
set_option maxHeartbeats 4000000 in
set_option maxRecDepth 100000 in
theorem c8_strengthOf (l : Launch) (G : GT) {k : Nat} (hk : isTown k) (σ : SI) (τ : SL) (x1 : Int32) : Mc l yX8_strengthOf cX8_strengthOf 2 (some .int) 2 G [.ref (G.2.1 k), .int x1] σ τ (Qi G (Ei (f8_strengthOf k σ x1) σ τ)) := by
  refine m_start (by decide +kernel) (Nat.le_of_ble_eq_true rfl) rfl (fun p e s m args below meth c ls X I hl => ?_)
  have hl : lv_has ls 2 [(0, .ref (G.2.1 k)), (1, .int x1)] := hl
  obtain ⟨E, hE⟩ : ∃ E, E = (f8_strengthOf k σ x1) := ⟨_, rfl⟩
  rw [← hE]
  refine lv_iload_n X.1 X.2.1 dX8_strengthOf_0 rfl (lv_at hl 1 rfl) ?_
  refine lv_if_lt (tgt := 26) X.1 X.2.1 dX8_strengthOf_1 (by decide) (fun c_1 => ?_) (fun c_1 => ?_)
  · skip
    have hE := ite_t hE c_1
    refine lv_iconst (v := 0) X.1 X.2.1 dX8_strengthOf_26 (by decide) ?_
    have h9 := hE
    exact r_iret X I (e_i h9.symm rfl rfl) dX8_strengthOf_27
  · skip
    have hE := ite_f hE c_1
    refine lv_iload_n X.1 X.2.1 dX8_strengthOf_4 rfl (lv_at hl 1 rfl) ?_
    refine lv_aload_n X.1 X.2.1 dX8_strengthOf_5 rfl (lv_at hl 0 rfl) ?_
    refine r_ei I (r_runV X I pk_X8_bearers (c8_bearers l G (k := k) hk _ _) lm_X8_58 (Nat.lt_of_le_of_lt (Nat.add_le_add_left (show 0 ≤ 2 by decide) k) hk.1) (cl_8 hk.2.1) rfl rfl rfl hl.1 rfl (Nat.le_of_ble_eq_true rfl) dX8_strengthOf_6 ⟨Nat.le_of_ble_eq_true rfl, Nat.le_of_ble_eq_true rfl⟩ ⟨Nat.le_refl 0, Nat.le_refl 0⟩) (fun H locs I => ?_)
    refine lv_icmp_ge (tgt := 26) X.1 X.2.1 dX8_strengthOf_9 (by decide) (fun c_2 => ?_) (fun c_2 => ?_)
    · skip
      have hE := ite_t hE c_2
      refine lv_iconst (v := 0) X.1 X.2.1 dX8_strengthOf_26 (by decide) ?_
      have h9 := hE
      exact r_iret X I (e_i h9.symm rfl rfl) dX8_strengthOf_27
    · skip
      have hE := ite_f hE c_2
      refine lv_aload_n X.1 X.2.1 dX8_strengthOf_12 rfl (lv_at hl 0 rfl) ?_
      refine g8_0 X I (k := k) (Nat.lt_of_le_of_lt (Nat.add_le_add_left (show 0 ≤ 2 by decide) k) hk.1) hk.2.1 lf_X8_9 dX8_strengthOf_13 ?_
      refine lv_bipush (v := 31) X.1 X.2.1 dX8_strengthOf_16 (by decide) ?_
      refine lv_iload_n X.1 X.2.1 dX8_strengthOf_18 rfl (lv_at hl 1 rfl) ?_
      refine lv_iadd X.1 X.2.1 dX8_strengthOf_19 ?_
      refine r_ei I (r_runN X I pk_X11_cell (c11_cell l G (k := (k + 1)) (n := 36) (Nat.lt_of_le_of_lt (Nat.add_le_add_left (show 1 ≤ 2 by decide) k) hk.1) hk.2.2.1 (by decide) _ _ _) (by decide +kernel) rfl hl.1 rfl (Nat.le_of_ble_eq_true rfl) dX8_strengthOf_20 ⟨Nat.le_of_ble_eq_true rfl, Nat.le_of_ble_eq_true rfl⟩ ⟨Nat.le_refl 0, Nat.le_refl 0⟩) (fun H locs I => ?_)
      refine lv_goto (tgt := 27) X.1 X.2.1 dX8_strengthOf_23 (by decide) ?_
      have h9 := hE
      exact r_iret X I (e_i h9.symm rfl rfl) dX8_strengthOf_27
noncomputable def f8_strength_c4 (k : Nat) (σ : SI) : Nat → Int32 → Int32 → Int32
  | 0, _, _ => 0
  | fu + 1, v1, v2 => if (f8_bearers k σ) ≤ v2 then v1 else (f8_strength_c4 k σ fu (v1 + (f8_strengthOf k σ v2)) (v2 + 1))
noncomputable def f8_strength (k : Nat) (σ : SI) : Int32 := (f8_strength_c4 k σ (fu1 ((Int32.toInt (f8_bearers k σ) - Int32.toInt (0 : Int32)).toNat)) (0 : Int32) (0 : Int32))
set_option maxHeartbeats 4000000 in
set_option maxRecDepth 100000 in
theorem c8_strength_c4 {l : Launch} {p : Program} {e : Env} {s : State} {m : MethodId} {args : Array Value} {below : List Frame} {meth : Method} {c : Code} {G : GT} (X : CX p s m args meth c cX8_strength RX8 3 (some .int) G) {k : Nat} (hk : isTown k) {E : Int32} (σ : SI) (τ : SL) : ∀ (fu : Nat) (v1 : Int32) (v2 : Int32) (H : Heap) (locs : List Loc) (ls : Array Slot), IX G s H locs σ τ → lv_has ls 3 [(0, .ref (G.2.1 k)), (1, .int v1), (2, .int v2)] → (Int32.toInt (f8_bearers k σ) - Int32.toInt v2).toNat < fu → E = (f8_strength_c4 k σ fu v1 v2) → W p l e (rmN 3) s m args below meth c H locs 0 0 (MQ below ((Qi G (Ei E σ τ)) s.heap.size) args s 0 0 (AW G s.heap.size)) (F0 m 4 ls []) := by
  intro fu
  induction fu with
  | zero =>
    intro v1 v2 H locs ls I hl  hm hE
    exact absurd hm (Nat.not_lt_zero _)
  | succ fu ih =>
    intro v1 v2 H locs ls I hl  hm hE
    refine lv_iload_n X.1 X.2.1 dX8_strength_4 rfl (lv_at hl 2 rfl) ?_
    refine lv_aload_n X.1 X.2.1 dX8_strength_5 rfl (lv_at hl 0 rfl) ?_
    refine r_ei I (r_runV X I pk_X8_bearers (c8_bearers l G (k := k) hk _ _) lm_X8_58 (Nat.lt_of_le_of_lt (Nat.add_le_add_left (show 0 ≤ 2 by decide) k) hk.1) (cl_8 hk.2.1) rfl rfl rfl hl.1 rfl (Nat.le_of_ble_eq_true rfl) dX8_strength_6 ⟨Nat.le_of_ble_eq_true rfl, Nat.le_of_ble_eq_true rfl⟩ ⟨Nat.le_refl 0, Nat.le_refl 0⟩) (fun H locs I => ?_)
    refine lv_icmp_ge (tgt := 26) X.1 X.2.1 dX8_strength_9 (by decide) (fun c_1 => ?_) (fun c_1 => ?_)
    · skip
      have hE := ite_t hE c_1
      refine lv_iload_n X.1 X.2.1 dX8_strength_26 rfl (lv_at hl 1 rfl) ?_
      have h9 := hE
      exact r_iret X I (e_i h9.symm rfl rfl) dX8_strength_27
    · skip
      have hE := ite_f hE c_1
      refine lv_iload_n X.1 X.2.1 dX8_strength_12 rfl (lv_at hl 1 rfl) ?_
      refine lv_aload_n X.1 X.2.1 dX8_strength_13 rfl (lv_at hl 0 rfl) ?_
      refine lv_iload_n X.1 X.2.1 dX8_strength_14 rfl (lv_at hl 2 rfl) ?_
      refine r_ei I (r_runV X I pk_X8_strengthOf (c8_strengthOf l G (k := k) hk _ _ _) lm_X8_84 (Nat.lt_of_le_of_lt (Nat.add_le_add_left (show 0 ≤ 2 by decide) k) hk.1) (cl_8 hk.2.1) rfl rfl rfl hl.1 rfl (Nat.le_of_ble_eq_true rfl) dX8_strength_15 ⟨Nat.le_of_ble_eq_true rfl, Nat.le_of_ble_eq_true rfl⟩ ⟨Nat.le_refl 0, Nat.le_refl 0⟩) (fun H locs I => ?_)
      refine lv_iadd X.1 X.2.1 dX8_strength_18 ?_
      refine lv_istore_n (lv' := [(1, .int _), (0, .ref _), (2, .int _)]) X.1 X.2.1 dX8_strength_19 rfl hl (by decide) rfl (fun ls hl => ?_)
      refine lv_iinc (v := _ + 1) (lv' := [(2, .int _), (1, .int _), (0, .ref _)]) X.1 X.2.1 dX8_strength_20 hl (k := 2) rfl rfl (by decide) rfl (fun ls hl => ?_)
      refine lv_goto (tgt := 4) X.1 X.2.1 dX8_strength_23 (by decide) ?_
      exact ih _ _ _ _ _ I (lv_sub hl [2, 1, 0] rfl) (Nat.lt_of_lt_of_le (up_dec c_1) (Nat.le_of_lt_succ hm)) (hE.trans (rfl))
set_option maxHeartbeats 4000000 in
set_option maxRecDepth 100000 in
theorem c8_strength (l : Launch) (G : GT) {k : Nat} (hk : isTown k) (σ : SI) (τ : SL) : Mc l yX8_strength cX8_strength 3 (some .int) 3 G [.ref (G.2.1 k)] σ τ (Qi G (Ei (f8_strength k σ) σ τ)) := by
  refine m_start (by decide +kernel) (Nat.le_of_ble_eq_true rfl) rfl (fun p e s m args below meth c ls X I hl => ?_)
  have hl : lv_has ls 3 [(0, .ref (G.2.1 k))] := hl
  obtain ⟨E, hE⟩ : ∃ E, E = (f8_strength k σ) := ⟨_, rfl⟩
  rw [← hE]
  refine lv_iconst (v := 0) X.1 X.2.1 dX8_strength_0 (by decide) ?_
  refine lv_istore_n (lv' := [(1, .int _), (0, .ref _)]) X.1 X.2.1 dX8_strength_1 rfl hl (by decide) rfl (fun ls hl => ?_)
  refine lv_iconst (v := 0) X.1 X.2.1 dX8_strength_2 (by decide) ?_
  refine lv_istore_n (lv' := [(2, .int _), (1, .int _), (0, .ref _)]) X.1 X.2.1 dX8_strength_3 rfl hl (by decide) rfl (fun ls hl => ?_)
  exact c8_strength_c4 X hk _ _  _ _ _ _ _ _ I (lv_sub hl [2, 1, 0] rfl) (fu1_lt _) (hE.trans (rfl))
