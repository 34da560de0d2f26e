noncomputable def f0_goHome (k : Nat) (σ : SI) : SI := let s0 := sp σ k 4 (-1 : Int32); let s1 := sp s0 k 2 (0 : Int32); let s2 := sp s1 k 3 (0 : Int32); let s3 := sp s2 k 5 (0 : Int32); s3
theorem w_f0_goHome {k : Nat} (σ : SI) (a : Nat) (h0 : a ≠ k) : (f0_goHome k σ) a = σ a := by
  unfold f0_goHome
  exact ((sp_n h0).trans ((sp_n h0).trans ((sp_n h0).trans (sp_n h0))))
set_option maxHeartbeats 4000000 in
set_option maxRecDepth 100000 in
theorem c0_goHome (l : Launch) (G : GT) {k : Nat} (hk : isDay k) (σ : SI) (τ : SL) : Mc l yX0_goHome cX0_goHome 1 none 0 G [.ref (G.2.1 k)] σ τ (Qv G (Ev (f0_goHome k σ) τ)) := by
  refine m_start (by decide +kernel) (Nat.le_of_ble_eq_true rfl) rfl (fun p e s m args below meth c ls X I hl => ?_)
  have hl : lv_has ls 1 [(0, .ref (G.2.1 k))] := hl
  obtain ⟨E, hE⟩ : ∃ E, E = (f0_goHome k σ) := ⟨_, rfl⟩
  rw [← hE]
  refine lv_aload_n X.1 X.2.1 dX0_goHome_0 rfl (lv_at hl 0 rfl) ?_
  refine lv_iconst (v := (-1)) X.1 X.2.1 dX0_goHome_1 (by decide) ?_
  refine p0_4 X I (k := k) (Nat.lt_of_le_of_lt (Nat.add_le_add_left (show 0 ≤ 1 by decide) k) hk.1) hk.2.1 lf_X0_15 dX0_goHome_2 (fun H locs I => ?_)
  refine lv_aload_n X.1 X.2.1 dX0_goHome_5 rfl (lv_at hl 0 rfl) ?_
  refine lv_iconst (v := 0) X.1 X.2.1 dX0_goHome_6 (by decide) ?_
  refine p0_2 X I (k := k) (Nat.lt_of_le_of_lt (Nat.add_le_add_left (show 0 ≤ 1 by decide) k) hk.1) hk.2.1 lf_X0_48 dX0_goHome_7 (fun H locs I => ?_)
  refine lv_aload_n X.1 X.2.1 dX0_goHome_10 rfl (lv_at hl 0 rfl) ?_
  refine lv_iconst (v := 0) X.1 X.2.1 dX0_goHome_11 (by decide) ?_
  refine p0_3 X I (k := k) (Nat.lt_of_le_of_lt (Nat.add_le_add_left (show 0 ≤ 1 by decide) k) hk.1) hk.2.1 lf_X0_51 dX0_goHome_12 (fun H locs I => ?_)
  refine lv_aload_n X.1 X.2.1 dX0_goHome_15 rfl (lv_at hl 0 rfl) ?_
  refine lv_iconst (v := 0) X.1 X.2.1 dX0_goHome_16 (by decide) ?_
  refine p0_5 X I (k := k) (Nat.lt_of_le_of_lt (Nat.add_le_add_left (show 0 ≤ 1 by decide) k) hk.1) hk.2.1 lf_X0_54 dX0_goHome_17 (fun H locs I => ?_)
  have h9 := hE
  exact r_vret X I (e_v h9.symm rfl) dX0_goHome_20
noncomputable def f11_setCell (k : Nat) (n : Nat) (σ : SI) (x1 : Int32) (x2 : Int32) : SI := if x1 < (0 : Int32) then σ else (if (Int32.ofNat n) ≤ x1 then σ else (let s0 := sp σ k (Int32.toNatClampNeg x1) x2; s0))
theorem w_f11_setCell {k : Nat} {n : Nat} (σ : SI) (x1 : Int32) (x2 : Int32) (a : Nat) (h0 : a ≠ k) : (f11_setCell k n σ x1 x2) a = σ a := by
  unfold f11_setCell
  exact (fr_ite rfl (fr_ite rfl (sp_n h0)))
set_option maxHeartbeats 4000000 in
set_option maxRecDepth 100000 in
theorem c11_setCell (l : Launch) (G : GT) {k n : Nat} (hk : k < NW) (hd : kd k = 100 + n) (hn : n < 2 ^ 31) (σ : SI) (τ : SL) (x1 : Int32) (x2 : Int32) : Mc l yX11_setCell cX11_setCell 3 none 0 G [.ref (G.2.1 k), .int x1, .int x2] σ τ (Qv G (Ev (f11_setCell k n σ x1 x2) τ)) := by
  refine m_start (by decide +kernel) (Nat.le_of_ble_eq_true rfl) rfl (fun p e s m args below meth c ls X I hl => ?_)
  have hl : lv_has ls 3 [(0, .ref (G.2.1 k)), (1, .int x1), (2, .int x2)] := hl
  obtain ⟨E, hE⟩ : ∃ E, E = (f11_setCell k n σ x1 x2) := ⟨_, rfl⟩
  rw [← hE]
  refine lv_iload_n X.1 X.2.1 dX11_setCell_0 rfl (lv_at hl 1 rfl) ?_
  refine lv_if_lt (tgt := 14) X.1 X.2.1 dX11_setCell_1 (by decide) (fun c_1 => ?_) (fun c_1 => ?_)
  · skip
    have hE := ite_t hE c_1
    have h9 := hE
    exact r_vret X I (e_v h9.symm rfl) dX11_setCell_14
  · skip
    have hE := ite_f hE c_1
    refine lv_iload_n X.1 X.2.1 dX11_setCell_4 rfl (lv_at hl 1 rfl) ?_
    refine lv_aload_n X.1 X.2.1 dX11_setCell_5 rfl (lv_at hl 0 rfl) ?_
    refine r_alen X I (k := k) (n := n) hk hd rfl dX11_setCell_6 ?_
    refine lv_icmp_ge (tgt := 14) X.1 X.2.1 dX11_setCell_7 (by decide) (fun c_2 => ?_) (fun c_2 => ?_)
    · skip
      have hE := ite_t hE c_2
      have h9 := hE
      exact r_vret X I (e_v h9.symm rfl) dX11_setCell_14
    · skip
      have hE := ite_f hE c_2
      refine lv_aload_n X.1 X.2.1 dX11_setCell_10 rfl (lv_at hl 0 rfl) ?_
      refine lv_iload_n X.1 X.2.1 dX11_setCell_11 rfl (lv_at hl 1 rfl) ?_
      refine lv_iload_n X.1 X.2.1 dX11_setCell_12 rfl (lv_at hl 2 rfl) ?_
      refine r_ast X I (k := k) (n := n) hk hd (vp_g (n := n) hn c_1 c_2) dX11_setCell_13 (fun H locs I => ?_)
      have h9 := hE
      exact r_vret X I (e_v h9.symm rfl) dX11_setCell_14
noncomputable def f0_setGrievance (k : Nat) (σ : SI) (x1 : Int32) (x2 : Int32) : SI := let s0 := (f11_setCell (k + 1) 7 σ x1 x2); s0
theorem w_f0_setGrievance {k : Nat} (σ : SI) (x1 : Int32) (x2 : Int32) (a : Nat) (h0 : a ≠ (k + 1)) : (f0_setGrievance k σ x1 x2) a = σ a := by
  unfold f0_setGrievance
  exact (w_f11_setCell _ _ _ a h0)
set_option maxHeartbeats 4000000 in
set_option maxRecDepth 100000 in
theorem c0_setGrievance (l : Launch) (G : GT) {k : Nat} (hk : isDay k) (σ : SI) (τ : SL) (x1 : Int32) (x2 : Int32) : Mc l yX0_setGrievance cX0_setGrievance 3 none 1 G [.ref (G.2.1 k), .int x1, .int x2] σ τ (Qv G (Ev (f0_setGrievance k σ x1 x2) τ)) := by
  refine m_start (by decide +kernel) (Nat.le_of_ble_eq_true rfl) rfl (fun p e s m args below meth c ls X I hl => ?_)
  have hl : lv_has ls 3 [(0, .ref (G.2.1 k)), (1, .int x1), (2, .int x2)] := hl
  obtain ⟨E, hE⟩ : ∃ E, E = (f0_setGrievance k σ x1 x2) := ⟨_, rfl⟩
  rw [← hE]
  refine lv_aload_n X.1 X.2.1 dX0_setGrievance_0 rfl (lv_at hl 0 rfl) ?_
  refine g0_0 X I (k := k) (Nat.lt_of_le_of_lt (Nat.add_le_add_left (show 0 ≤ 1 by decide) k) hk.1) hk.2.1 lf_X0_9 dX0_setGrievance_1 ?_
  refine lv_iload_n X.1 X.2.1 dX0_setGrievance_4 rfl (lv_at hl 1 rfl) ?_
  refine lv_iload_n X.1 X.2.1 dX0_setGrievance_5 rfl (lv_at hl 2 rfl) ?_
  refine r_ev I (r_runN X I pk_X11_setCell (c11_setCell l G (k := (k + 1)) (n := 7) (Nat.lt_of_le_of_lt (Nat.add_le_add_left (show 1 ≤ 1 by decide) k) hk.1) hk.2.2 (by decide) _ _ _ _) (by decide +kernel) rfl hl.1 rfl (Nat.le_of_ble_eq_true rfl) dX0_setGrievance_6 ⟨Nat.le_of_ble_eq_true rfl, Nat.le_of_ble_eq_true rfl⟩ ⟨Nat.le_refl 0, Nat.le_refl 0⟩) (fun H locs I => ?_)
  have h9 := hE
  exact r_vret X I (e_v h9.symm rfl) dX0_setGrievance_9
noncomputable def f11_cellS (j : Nat) (x1 : Int32) : Int32 := if x1 < (0 : Int32) then (0 : Int32) else (if (Int32.ofNat (zL j)) ≤ x1 then (0 : Int32) else (zF j (Int32.toNatClampNeg x1)))
set_option maxHeartbeats 4000000 in
set_option maxRecDepth 100000 in
theorem c11_cellS (l : Launch) (G : GT) (j : Nat) (hj : j < 9) (σ : SI) (τ : SL) (x1 : Int32) : Mc l yX11_cell cX11_cell 2 (some .int) 0 G [.ref (G.2.2.2 j), .int x1] σ τ (Qi G (Ei (f11_cellS j x1) σ τ)) := by
  refine m_start (by decide +kernel) (Nat.le_of_ble_eq_true rfl) rfl (fun p e s m args below meth c ls X I hl => ?_)
  have hl : lv_has ls 2 [(0, .ref (G.2.2.2 j)), (1, .int x1)] := hl
  obtain ⟨E, hE⟩ : ∃ E, E = (f11_cellS j x1) := ⟨_, rfl⟩
  rw [← hE]
  refine lv_iload_n X.1 X.2.1 dX11_cell_0 rfl (lv_at hl 1 rfl) ?_
  refine lv_if_lt (tgt := 16) X.1 X.2.1 dX11_cell_1 (by decide) (fun c_1 => ?_) (fun c_1 => ?_)
  · skip
    have hE := ite_t hE c_1
    refine lv_iconst (v := 0) X.1 X.2.1 dX11_cell_16 (by decide) ?_
    have h9 := hE
    exact r_iret X I (e_i h9.symm rfl rfl) dX11_cell_17
  · skip
    have hE := ite_f hE c_1
    refine lv_iload_n X.1 X.2.1 dX11_cell_4 rfl (lv_at hl 1 rfl) ?_
    refine lv_aload_n X.1 X.2.1 dX11_cell_5 rfl (lv_at hl 0 rfl) ?_
    refine r_stlen X I j hj rfl dX11_cell_6 ?_
    refine lv_icmp_ge (tgt := 16) X.1 X.2.1 dX11_cell_7 (by decide) (fun c_2 => ?_) (fun c_2 => ?_)
    · skip
      have hE := ite_t hE c_2
      refine lv_iconst (v := 0) X.1 X.2.1 dX11_cell_16 (by decide) ?_
      have h9 := hE
      exact r_iret X I (e_i h9.symm rfl rfl) dX11_cell_17
    · skip
      have hE := ite_f hE c_2
      refine lv_aload_n X.1 X.2.1 dX11_cell_10 rfl (lv_at hl 0 rfl) ?_
      refine lv_iload_n X.1 X.2.1 dX11_cell_11 rfl (lv_at hl 1 rfl) ?_
      refine r_stld X I j hj (vp_g (n := (zL j)) (zL_lt hj) c_1 c_2) dX11_cell_12 ?_
      refine lv_goto (tgt := 17) X.1 X.2.1 dX11_cell_13 (by decide) ?_
      have h9 := hE
      exact r_iret X I (e_i h9.symm rfl rfl) dX11_cell_17
noncomputable def f11_cell (k : Nat) (n : Nat) (σ : SI) (x1 : Int32) : Int32 := if x1 < (0 : Int32) then (0 : Int32) else (if (Int32.ofNat n) ≤ x1 then (0 : Int32) else (σ k (Int32.toNatClampNeg x1)))
set_option maxHeartbeats 4000000 in
set_option maxRecDepth 100000 in
theorem c11_cell (l : Launch) (G : GT) {k n : Nat} (hk : k < NW) (hd : kd k = 100 + n) (hn : n < 2 ^ 31) (σ : SI) (τ : SL) (x1 : Int32) : Mc l yX11_cell cX11_cell 2 (some .int) 0 G [.ref (G.2.1 k), .int x1] σ τ (Qi G (Ei (f11_cell k n σ x1) σ τ)) := by
  refine m_start (by decide +kernel) (Nat.le_of_ble_eq_true rfl) rfl (fun p e s m args below meth c ls X I hl => ?_)
  have hl : lv_has ls 2 [(0, .ref (G.2.1 k)), (1, .int x1)] := hl
  obtain ⟨E, hE⟩ : ∃ E, E = (f11_cell k n σ x1) := ⟨_, rfl⟩
  rw [← hE]
  refine lv_iload_n X.1 X.2.1 dX11_cell_0 rfl (lv_at hl 1 rfl) ?_
  refine lv_if_lt (tgt := 16) X.1 X.2.1 dX11_cell_1 (by decide) (fun c_1 => ?_) (fun c_1 => ?_)
  · skip
    have hE := ite_t hE c_1
    refine lv_iconst (v := 0) X.1 X.2.1 dX11_cell_16 (by decide) ?_
    have h9 := hE
    exact r_iret X I (e_i h9.symm rfl rfl) dX11_cell_17
  · skip
    have hE := ite_f hE c_1
    refine lv_iload_n X.1 X.2.1 dX11_cell_4 rfl (lv_at hl 1 rfl) ?_
    refine lv_aload_n X.1 X.2.1 dX11_cell_5 rfl (lv_at hl 0 rfl) ?_
    refine r_alen X I (k := k) (n := n) hk hd rfl dX11_cell_6 ?_
    refine lv_icmp_ge (tgt := 16) X.1 X.2.1 dX11_cell_7 (by decide) (fun c_2 => ?_) (fun c_2 => ?_)
    · skip
      have hE := ite_t hE c_2
      refine lv_iconst (v := 0) X.1 X.2.1 dX11_cell_16 (by decide) ?_
      have h9 := hE
      exact r_iret X I (e_i h9.symm rfl rfl) dX11_cell_17
    · skip
      have hE := ite_f hE c_2
      refine lv_aload_n X.1 X.2.1 dX11_cell_10 rfl (lv_at hl 0 rfl) ?_
      refine lv_iload_n X.1 X.2.1 dX11_cell_11 rfl (lv_at hl 1 rfl) ?_
      refine r_ald X I (k := k) (n := n) hk hd (vp_g (n := n) hn c_1 c_2) dX11_cell_12 ?_
      refine lv_goto (tgt := 17) X.1 X.2.1 dX11_cell_13 (by decide) ?_
      have h9 := hE
      exact r_iret X I (e_i h9.symm rfl rfl) dX11_cell_17
noncomputable def f8_toldCoins (k : Nat) (σ : SI) : Int32 := (f11_cell (k + 1) 36 σ (1 : Int32))
set_option maxHeartbeats 4000000 in
set_option maxRecDepth 100000 in
theorem c8_toldCoins (l : Launch) (G : GT) {k : Nat} (hk : isTown k) (σ : SI) (τ : SL) : Mc l yX8_toldCoins cX8_toldCoins 1 (some .int) 1 G [.ref (G.2.1 k)] σ τ (Qi G (Ei (f8_toldCoins k σ) σ τ)) := by
  refine m_start (by decide +kernel) (Nat.le_of_ble_eq_true rfl) rfl (fun p e s m args below meth c ls X I hl => ?_)
  have hl : lv_has ls 1 [(0, .ref (G.2.1 k))] := hl
  obtain ⟨E, hE⟩ : ∃ E, E = (f8_toldCoins k σ) := ⟨_, rfl⟩
  rw [← hE]
  refine lv_aload_n X.1 X.2.1 dX8_toldCoins_0 rfl (lv_at hl 0 rfl) ?_
  refine g8_0 X I (k := k) (Nat.lt_of_le_of_lt (Nat.add_le_add_left (show 0 ≤ 2 by decide) k) hk.1) hk.2.1 lf_X8_9 dX8_toldCoins_1 ?_
  refine lv_iconst (v := 1) X.1 X.2.1 dX8_toldCoins_4 (by decide) ?_
  refine r_ei I (r_runN X I pk_X11_cell (c11_cell l G (k := (k + 1)) (n := 36) (Nat.lt_of_le_of_lt (Nat.add_le_add_left (show 1 ≤ 2 by decide) k) hk.1) hk.2.2.1 (by decide) _ _ _) (by decide +kernel) rfl hl.1 rfl (Nat.le_of_ble_eq_true rfl) dX8_toldCoins_5 ⟨Nat.le_of_ble_eq_true rfl, Nat.le_of_ble_eq_true rfl⟩ ⟨Nat.le_refl 0, Nat.le_refl 0⟩) (fun H locs I => ?_)
  have h9 := hE
  exact r_iret X I (e_i h9.symm rfl rfl) dX8_toldCoins_8
noncomputable def f8_ofHouse (k : Nat) (σ : SI) (x1 : Int32) (x2 : Int32) : Int32 := if x1 < (0 : Int32) then (0 : Int32) else (if (7 : Int32) ≤ x1 then (0 : Int32) else (if x2 < (0 : Int32) then (0 : Int32) else (if x2 < (4 : Int32) then (if (36 : Int32) ≤ (((3 : Int32) + (x1 * (4 : Int32))) + x2) then (0 : Int32) else (σ (k + 1) (Int32.toNatClampNeg (((3 : Int32) + (x1 * (4 : Int32))) + x2)))) else (0 : Int32))))
set_option maxHeartbeats 4000000 in
set_option maxRecDepth 100000 in
theorem c8_ofHouse (l : Launch) (G : GT) {k : Nat} (hk : isTown k) (σ : SI) (τ : SL) (x1 : Int32) (x2 : Int32) : Mc l yX8_ofHouse cX8_ofHouse 4 (some .int) 0 G [.ref (G.2.1 k), .int x1, .int x2] σ τ (Qi G (Ei (f8_ofHouse k σ x1 x2) σ τ)) := by
  refine m_start (by decide +kernel) (Nat.le_of_ble_eq_true rfl) rfl (fun p e s m args below meth c ls X I hl => ?_)
  have hl : lv_has ls 4 [(0, .ref (G.2.1 k)), (1, .int x1), (2, .int x2)] := hl
  obtain ⟨E, hE⟩ : ∃ E, E = (f8_ofHouse k σ x1 x2) := ⟨_, rfl⟩
  rw [← hE]
  refine lv_iload_n X.1 X.2.1 dX8_ofHouse_0 rfl (lv_at hl 1 rfl) ?_
  refine lv_if_lt (tgt := 19) X.1 X.2.1 dX8_ofHouse_1 (by decide) (fun c_1 => ?_) (fun c_1 => ?_)
  · skip
    have hE := ite_t hE c_1
    refine lv_iconst (v := 0) X.1 X.2.1 dX8_ofHouse_19 (by decide) ?_
    have h9 := hE
    exact r_iret X I (e_i h9.symm rfl rfl) dX8_ofHouse_20
  · skip
    have hE := ite_f hE c_1
    refine lv_iload_n X.1 X.2.1 dX8_ofHouse_4 rfl (lv_at hl 1 rfl) ?_
    refine lv_bipush (v := 7) X.1 X.2.1 dX8_ofHouse_5 (by decide) ?_
    refine lv_icmp_ge (tgt := 19) X.1 X.2.1 dX8_ofHouse_7 (by decide) (fun c_2 => ?_) (fun c_2 => ?_)
    · skip
      have hE := ite_t hE c_2
      refine lv_iconst (v := 0) X.1 X.2.1 dX8_ofHouse_19 (by decide) ?_
      have h9 := hE
      exact r_iret X I (e_i h9.symm rfl rfl) dX8_ofHouse_20
    · skip
      have hE := ite_f hE c_2
      refine lv_iload_n X.1 X.2.1 dX8_ofHouse_10 rfl (lv_at hl 2 rfl) ?_
      refine lv_if_lt (tgt := 19) X.1 X.2.1 dX8_ofHouse_11 (by decide) (fun c_3 => ?_) (fun c_3 => ?_)
      · skip
        have hE := ite_t hE c_3
        refine lv_iconst (v := 0) X.1 X.2.1 dX8_ofHouse_19 (by decide) ?_
        have h9 := hE
        exact r_iret X I (e_i h9.symm rfl rfl) dX8_ofHouse_20
      · skip
        have hE := ite_f hE c_3
        refine lv_iload_n X.1 X.2.1 dX8_ofHouse_14 rfl (lv_at hl 2 rfl) ?_
        refine lv_iconst (v := 4) X.1 X.2.1 dX8_ofHouse_15 (by decide) ?_
        refine lv_icmp_lt (tgt := 21) X.1 X.2.1 dX8_ofHouse_16 (by decide) (fun c_4 => ?_) (fun c_4 => ?_)
        · skip
          have hE := ite_t hE c_4
          refine lv_iconst (v := 3) X.1 X.2.1 dX8_ofHouse_21 (by decide) ?_
          refine lv_iload_n X.1 X.2.1 dX8_ofHouse_22 rfl (lv_at hl 1 rfl) ?_
          refine lv_iconst (v := 4) X.1 X.2.1 dX8_ofHouse_23 (by decide) ?_
          refine lv_imul X.1 X.2.1 dX8_ofHouse_24 ?_
          refine lv_iadd X.1 X.2.1 dX8_ofHouse_25 ?_
          refine lv_iload_n X.1 X.2.1 dX8_ofHouse_26 rfl (lv_at hl 2 rfl) ?_
          refine lv_iadd X.1 X.2.1 dX8_ofHouse_27 ?_
          refine lv_istore_n (lv' := [(3, .int _), (0, .ref _), (1, .int _), (2, .int _)]) X.1 X.2.1 dX8_ofHouse_28 rfl hl (by decide) rfl (fun ls hl => ?_)
          refine lv_iload_n X.1 X.2.1 dX8_ofHouse_29 rfl (lv_at hl 0 rfl) ?_
          refine lv_aload_n X.1 X.2.1 dX8_ofHouse_30 rfl (lv_at hl 1 rfl) ?_
          refine g8_0 X I (k := k) (Nat.lt_of_le_of_lt (Nat.add_le_add_left (show 0 ≤ 2 by decide) k) hk.1) hk.2.1 lf_X8_9 dX8_ofHouse_31 ?_
          refine r_alen X I (k := (k + 1)) (n := 36) (Nat.lt_of_le_of_lt (Nat.add_le_add_left (show 1 ≤ 2 by decide) k) hk.1) hk.2.2.1 (v := 36) rfl dX8_ofHouse_34 ?_
          refine lv_icmp_ge (tgt := 47) X.1 X.2.1 dX8_ofHouse_35 (by decide) (fun c_5 => ?_) (fun c_5 => ?_)
          · skip
            have hE := ite_t hE c_5
            refine lv_iconst (v := 0) X.1 X.2.1 dX8_ofHouse_47 (by decide) ?_
            have h9 := hE
            exact r_iret X I (e_i h9.symm rfl rfl) dX8_ofHouse_48
          · skip
            have hE := ite_f hE c_5
            refine lv_aload_n X.1 X.2.1 dX8_ofHouse_38 rfl (lv_at hl 1 rfl) ?_
            refine g8_0 X I (k := k) (Nat.lt_of_le_of_lt (Nat.add_le_add_left (show 0 ≤ 2 by decide) k) hk.1) hk.2.1 lf_X8_9 dX8_ofHouse_39 ?_
            refine lv_iload_n X.1 X.2.1 dX8_ofHouse_42 rfl (lv_at hl 0 rfl) ?_
            refine r_ald X I (k := (k + 1)) (n := 36) (Nat.lt_of_le_of_lt (Nat.add_le_add_left (show 1 ≤ 2 by decide) k) hk.1) hk.2.2.1 (vp_slot c_1 c_2 c_3 (vp_lt c_4)) dX8_ofHouse_43 ?_
            refine lv_goto (tgt := 48) X.1 X.2.1 dX8_ofHouse_44 (by decide) ?_
            have h9 := hE
            exact r_iret X I (e_i h9.symm rfl rfl) dX8_ofHouse_48
        · skip
          have hE := ite_f hE c_4
          refine lv_iconst (v := 0) X.1 X.2.1 dX8_ofHouse_19 (by decide) ?_
          have h9 := hE
          exact r_iret X I (e_i h9.symm rfl rfl) dX8_ofHouse_20
noncomputable def f8_toldGrievance (k : Nat) (σ : SI) (x1 : Int32) : Int32 := (f8_ofHouse k σ x1 (2 : Int32))
set_option maxHeartbeats 4000000 in
set_option maxRecDepth 100000 in
theorem c8_toldGrievance (l : Launch) (G : GT) {k : Nat} (hk : isTown k) (σ : SI) (τ : SL) (x1 : Int32) : Mc l yX8_toldGrievance cX8_toldGrievance 2 (some .int) 1 G [.ref (G.2.1 k), .int x1] σ τ (Qi G (Ei (f8_toldGrievance k σ x1) σ τ)) := by
  refine m_start (by decide +kernel) (Nat.le_of_ble_eq_true rfl) rfl (fun p e s m args below meth c ls X I hl => ?_)
  have hl : lv_has ls 2 [(0, .ref (G.2.1 k)), (1, .int x1)] := hl
  obtain ⟨E, hE⟩ : ∃ E, E = (f8_toldGrievance k σ x1) := ⟨_, rfl⟩
  rw [← hE]
  refine lv_aload_n X.1 X.2.1 dX8_toldGrievance_0 rfl (lv_at hl 0 rfl) ?_
  refine lv_iload_n X.1 X.2.1 dX8_toldGrievance_1 rfl (lv_at hl 1 rfl) ?_
  refine lv_iconst (v := 2) X.1 X.2.1 dX8_toldGrievance_2 (by decide) ?_
  refine r_ei I (r_runV X I pk_X8_ofHouse (c8_ofHouse l G (k := k) hk _ _ _ _) lm_X8_69 (Nat.lt_of_le_of_lt (Nat.add_le_add_left (show 0 ≤ 2 by decide) k) hk.1) (cl_8 hk.2.1) rfl rfl rfl hl.1 rfl (Nat.le_of_ble_eq_true rfl) dX8_toldGrievance_3 ⟨Nat.le_of_ble_eq_true rfl, Nat.le_of_ble_eq_true rfl⟩ ⟨Nat.le_refl 0, Nat.le_refl 0⟩) (fun H locs I => ?_)
  have h9 := hE
  exact r_iret X I (e_i h9.symm rfl rfl) dX8_toldGrievance_6
noncomputable def f0_begin_c2 (k : Nat) (k1 : Nat) : Nat → Int32 → SI → SI
  | 0, _, σ => σ
  | fu + 1, v2, σ => if (7 : Int32) ≤ v2 then (let s0 := sp σ k 1 (f8_toldCoins k1 σ); let s1 := sp s0 k 6 (0 : Int32); let s2 := sp s1 k 7 (0 : Int32); let s3 := sp s2 k 8 (0 : Int32); let s4 := (f0_goHome k s3); s4) else (let s5 := (f0_setGrievance k σ v2 (f8_toldGrievance k1 σ v2)); (f0_begin_c2 k k1 fu (v2 + 1) s5))
noncomputable def f0_begin (k : Nat) (k1 : Nat) (σ : SI) : SI := (f0_begin_c2 k k1 (fu1 ((Int32.toInt (7 : Int32) - Int32.toInt (0 : Int32)).toNat)) (0 : Int32) σ)
theorem w_f0_begin_c2 {k : Nat} {k1 : Nat} (a : Nat) (h0 : a ≠ (k + 1)) (h1 : a ≠ k) : ∀ (fu : Nat) (v2 : Int32) (σ : SI), (f0_begin_c2 k k1 fu v2 σ) a = σ a := by
  intro fu
  induction fu with
  | zero => intro v2 σ; exact rfl
  | succ fu ih =>
    intro v2 σ
    unfold f0_begin_c2
    exact (fr_ite ((w_f0_goHome _ a h1).trans ((sp_n h1).trans ((sp_n h1).trans ((sp_n h1).trans (sp_n h1))))) ((ih _ _).trans (w_f0_setGrievance _ _ _ a h0)))
theorem w_f0_begin {k : Nat} {k1 : Nat} (σ : SI) (a : Nat) (h0 : a ≠ (k + 1)) (h1 : a ≠ k) : (f0_begin k k1 σ) a = σ a := by
  unfold f0_begin
  exact (w_f0_begin_c2 a h0 h1 _ _ _)
set_option maxHeartbeats 4000000 in
set_option maxRecDepth 100000 in
theorem c0_begin_c2 {l : Launch} {p : Program} {e : Env} {s : State} {m : MethodId} {args : Array Value} {below : List Frame} {meth : Method} {c : Code} {G : GT} (X : CX p s m args meth c cX0_begin RX0 3 none G) {k : Nat} (hk : isDay k) {k1 : Nat} (hk1 : isTown k1) {E : SI} (τ : SL) : ∀ (fu : Nat) (v2 : Int32) (σ : SI) (H : Heap) (locs : List Loc) (ls : Array Slot), IX G s H locs σ τ → lv_has ls 3 [(0, .ref (G.2.1 k)), (1, .ref (G.2.1 k1)), (2, .int v2)] → (Int32.toInt (7 : Int32) - Int32.toInt v2).toNat < fu → E = (f0_begin_c2 k k1 fu v2 σ) → W p l e (rmN 2) s m args below meth c H locs 0 0 (MQ below ((Qv G (Ev E τ)) s.heap.size) args s 0 0 (AW G s.heap.size)) (F0 m 2 ls []) := by
  intro fu
  induction fu with
  | zero =>
    intro v2 σ H locs ls I hl  hm hE
    exact absurd hm (Nat.not_lt_zero _)
  | succ fu ih =>
    intro v2 σ H locs ls I hl  hm hE
    refine lv_iload_n X.1 X.2.1 dX0_begin_2 rfl (lv_at hl 2 rfl) ?_
    refine lv_bipush (v := 7) X.1 X.2.1 dX0_begin_3 (by decide) ?_
    refine lv_icmp_ge (tgt := 24) X.1 X.2.1 dX0_begin_5 (by decide) (fun c_1 => ?_) (fun c_1 => ?_)
    · skip
      have hE := ite_t hE c_1
      refine lv_aload_n X.1 X.2.1 dX0_begin_24 rfl (lv_at hl 0 rfl) ?_
      refine lv_aload_n X.1 X.2.1 dX0_begin_25 rfl (lv_at hl 1 rfl) ?_
      refine r_ei I (r_runV X I pk_X8_toldCoins (c8_toldCoins l G (k := k1) hk1 _ _) lm_X0_29 (Nat.lt_of_le_of_lt (Nat.add_le_add_left (show 0 ≤ 2 by decide) k1) hk1.1) (cl_8 hk1.2.1) rfl rfl rfl hl.1 rfl (Nat.le_of_ble_eq_true rfl) dX0_begin_26 ⟨Nat.le_of_ble_eq_true rfl, Nat.le_of_ble_eq_true rfl⟩ ⟨Nat.le_refl 0, Nat.le_refl 0⟩) (fun H locs I => ?_)
      refine p0_1 X I (k := k) (Nat.lt_of_le_of_lt (Nat.add_le_add_left (show 0 ≤ 1 by decide) k) hk.1) hk.2.1 lf_X0_33 dX0_begin_29 (fun H locs I => ?_)
      refine lv_aload_n X.1 X.2.1 dX0_begin_32 rfl (lv_at hl 0 rfl) ?_
      refine lv_iconst (v := 0) X.1 X.2.1 dX0_begin_33 (by decide) ?_
      refine p0_6 X I (k := k) (Nat.lt_of_le_of_lt (Nat.add_le_add_left (show 0 ≤ 1 by decide) k) hk.1) hk.2.1 lf_X0_36 dX0_begin_34 (fun H locs I => ?_)
      refine lv_aload_n X.1 X.2.1 dX0_begin_37 rfl (lv_at hl 0 rfl) ?_
      refine lv_iconst (v := 0) X.1 X.2.1 dX0_begin_38 (by decide) ?_
      refine p0_7 X I (k := k) (Nat.lt_of_le_of_lt (Nat.add_le_add_left (show 0 ≤ 1 by decide) k) hk.1) hk.2.1 lf_X0_39 dX0_begin_39 (fun H locs I => ?_)
      refine lv_aload_n X.1 X.2.1 dX0_begin_42 rfl (lv_at hl 0 rfl) ?_
      refine lv_iconst (v := 0) X.1 X.2.1 dX0_begin_43 (by decide) ?_
      refine p0_8 X I (k := k) (Nat.lt_of_le_of_lt (Nat.add_le_add_left (show 0 ≤ 1 by decide) k) hk.1) hk.2.1 lf_X0_42 dX0_begin_44 (fun H locs I => ?_)
      refine lv_aload_n X.1 X.2.1 dX0_begin_47 rfl (lv_at hl 0 rfl) ?_
      refine r_ev I (r_runV X I pk_X0_goHome (c0_goHome l G (k := k) hk _ _) lm_X0_45 (Nat.lt_of_le_of_lt (Nat.add_le_add_left (show 0 ≤ 1 by decide) k) hk.1) (cl_0 hk.2.1) rfl rfl rfl hl.1 rfl (Nat.le_of_ble_eq_true rfl) dX0_begin_48 ⟨Nat.le_of_ble_eq_true rfl, Nat.le_of_ble_eq_true rfl⟩ ⟨Nat.le_refl 0, Nat.le_refl 0⟩) (fun H locs I => ?_)
      have h9 := hE
      exact r_vret X I (e_v h9.symm rfl) dX0_begin_51
    · skip
      have hE := ite_f hE c_1
      refine lv_aload_n X.1 X.2.1 dX0_begin_8 rfl (lv_at hl 0 rfl) ?_
      refine lv_iload_n X.1 X.2.1 dX0_begin_9 rfl (lv_at hl 2 rfl) ?_
      refine lv_aload_n X.1 X.2.1 dX0_begin_10 rfl (lv_at hl 1 rfl) ?_
      refine lv_iload_n X.1 X.2.1 dX0_begin_11 rfl (lv_at hl 2 rfl) ?_
      refine r_ei I (r_runV X I pk_X8_toldGrievance (c8_toldGrievance l G (k := k1) hk1 _ _ _) lm_X0_19 (Nat.lt_of_le_of_lt (Nat.add_le_add_left (show 0 ≤ 2 by decide) k1) hk1.1) (cl_8 hk1.2.1) rfl rfl rfl hl.1 rfl (Nat.le_of_ble_eq_true rfl) dX0_begin_12 ⟨Nat.le_of_ble_eq_true rfl, Nat.le_of_ble_eq_true rfl⟩ ⟨Nat.le_refl 0, Nat.le_refl 0⟩) (fun H locs I => ?_)
      refine r_ev I (r_runV X I pk_X0_setGrievance (c0_setGrievance l G (k := k) hk _ _ _ _) lm_X0_25 (Nat.lt_of_le_of_lt (Nat.add_le_add_left (show 0 ≤ 1 by decide) k) hk.1) (cl_0 hk.2.1) rfl rfl rfl hl.1 rfl (Nat.le_of_ble_eq_true rfl) dX0_begin_15 ⟨Nat.le_of_ble_eq_true rfl, Nat.le_of_ble_eq_true rfl⟩ ⟨Nat.le_refl 0, Nat.le_refl 0⟩) (fun H locs I => ?_)
      refine lv_iinc (v := _ + 1) (lv' := [(2, .int _), (0, .ref _), (1, .ref _)]) X.1 X.2.1 dX0_begin_18 hl (k := 2) rfl rfl (by decide) rfl (fun ls hl => ?_)
      refine lv_goto (tgt := 2) X.1 X.2.1 dX0_begin_21 (by decide) ?_
      exact ih _ _ _ _ _ I (lv_sub hl [1, 2, 0] rfl) (Nat.lt_of_lt_of_le (up_dec c_1) (Nat.le_of_lt_succ hm)) (hE.trans (rfl))
set_option maxHeartbeats 4000000 in
set_option maxRecDepth 100000 in
theorem c0_begin (l : Launch) (G : GT) {k : Nat} (hk : isDay k) {k1 : Nat} (hk1 : isTown k1) (σ : SI) (τ : SL) : Mc l yX0_begin cX0_begin 3 none 2 G [.ref (G.2.1 k), .ref (G.2.1 k1)] σ τ (Qv G (Ev (f0_begin k k1 σ) τ)) := by
  refine m_start (by decide +kernel) (Nat.le_of_ble_eq_true rfl) rfl (fun p e s m args below meth c ls X I hl => ?_)
  have hl : lv_has ls 3 [(0, .ref (G.2.1 k)), (1, .ref (G.2.1 k1))] := hl
  obtain ⟨E, hE⟩ : ∃ E, E = (f0_begin k k1 σ) := ⟨_, rfl⟩
  rw [← hE]
  refine lv_iconst (v := 0) X.1 X.2.1 dX0_begin_0 (by decide) ?_
  refine lv_istore_n (lv' := [(2, .int _), (0, .ref _), (1, .ref _)]) X.1 X.2.1 dX0_begin_1 rfl hl (by decide) rfl (fun ls hl => ?_)
  exact c0_begin_c2 X hk hk1 _  _ _ _ _ _ _ I (lv_sub hl [1, 2, 0] rfl) (fu1_lt _) (hE.trans (rfl))
