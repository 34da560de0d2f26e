def f0_goHome (k : Nat) (σ : SI) : SI := let s0 := sp σ k 4 (-1 : Int32); let s1 := sp s0 k 2 (0 : Int32); let s2 := sp s1 k 3 (0 : Int32); let s3 := sp s2 k 5 (0 : Int32); s3
theorem w_f0_goHome {k : Nat} (σ : SI) (a : Nat) (h0 : a ≠ k) : (f0_goHome k σ) a = σ a := by
  unfold f0_goHome
  (repeat' split) <;> (first | rfl | (simp only [sp_n, su_n, ne_eq, not_false_eq_true, h0]; done) | (simp [sp_n, su_n, ne_eq, not_false_eq_true, h0]; done))
set_option maxHeartbeats 4000000 in
set_option maxRecDepth 100000 in
theorem c0_goHome (l : Launch) (G : GT) {k : Nat} (hk : isDay k) (σ : SI) (τ : SL) : Mc l yX0_goHome cX0_goHome 1 none 0 G [.ref (G.2.1 k)] σ τ (Qv G (Ev (f0_goHome k σ) τ)) := by
  refine m_start (by decide +kernel) (Nat.le_of_ble_eq_true rfl) rfl (fun p e s m args below meth c ls X I hl => ?_)
  have hl : lv_has ls 1 [(0, .ref (G.2.1 k))] := hl
  obtain ⟨E, hE⟩ : ∃ E, E = (f0_goHome k σ) := ⟨_, rfl⟩
  rw [← hE]
  refine lv_aload_n X.1 X.2.1 dX0_goHome_0 rfl (lv_at hl 0 rfl) ?_
  refine lv_iconst (v := (-1)) X.1 X.2.1 dX0_goHome_1 (by decide) ?_
  refine p0_4 X I (k := k) (Nat.lt_of_le_of_lt (Nat.add_le_add_left (show 0 ≤ 1 by decide) k) hk.1) hk.2.1 lf_X0_15 dX0_goHome_2 (fun H locs I => ?_)
  refine lv_aload_n X.1 X.2.1 dX0_goHome_5 rfl (lv_at hl 0 rfl) ?_
  refine lv_iconst (v := 0) X.1 X.2.1 dX0_goHome_6 (by decide) ?_
  refine p0_2 X I (k := k) (Nat.lt_of_le_of_lt (Nat.add_le_add_left (show 0 ≤ 1 by decide) k) hk.1) hk.2.1 lf_X0_48 dX0_goHome_7 (fun H locs I => ?_)
  refine lv_aload_n X.1 X.2.1 dX0_goHome_10 rfl (lv_at hl 0 rfl) ?_
  refine lv_iconst (v := 0) X.1 X.2.1 dX0_goHome_11 (by decide) ?_
  refine p0_3 X I (k := k) (Nat.lt_of_le_of_lt (Nat.add_le_add_left (show 0 ≤ 1 by decide) k) hk.1) hk.2.1 lf_X0_51 dX0_goHome_12 (fun H locs I => ?_)
  refine lv_aload_n X.1 X.2.1 dX0_goHome_15 rfl (lv_at hl 0 rfl) ?_
  refine lv_iconst (v := 0) X.1 X.2.1 dX0_goHome_16 (by decide) ?_
  refine p0_5 X I (k := k) (Nat.lt_of_le_of_lt (Nat.add_le_add_left (show 0 ≤ 1 by decide) k) hk.1) hk.2.1 lf_X0_54 dX0_goHome_17 (fun H locs I => ?_)
  have h9 := hE
  exact r_vret X I (e_v (h9).symm rfl) dX0_goHome_20
def f11_setCell (k : Nat) (n : Nat) (σ : SI) (x1 : Int32) (x2 : Int32) : SI := if x1 < (0 : Int32) then σ else (if (Int32.ofNat n) ≤ x1 then σ else (let s0 := sp σ k (Int32.toNatClampNeg x1) x2; s0))
theorem w_f11_setCell {k : Nat} {n : Nat} (σ : SI) (x1 : Int32) (x2 : Int32) (a : Nat) (h0 : a ≠ k) : (f11_setCell k n σ x1 x2) a = σ a := by
  unfold f11_setCell
  (repeat' split) <;> (first | rfl | (simp only [sp_n, su_n, ne_eq, not_false_eq_true, h0]; done) | (simp [sp_n, su_n, ne_eq, not_false_eq_true, h0]; done))
set_option maxHeartbeats 4000000 in
set_option maxRecDepth 100000 in
theorem c11_setCell (l : Launch) (G : GT) {k n : Nat} (hk : k < NW) (hd : kd k = 100 + n) (hn : n < 2 ^ 31) (σ : SI) (τ : SL) (x1 : Int32) (x2 : Int32) : Mc l yX11_setCell cX11_setCell 3 none 0 G [.ref (G.2.1 k), .int x1, .int x2] σ τ (Qv G (Ev (f11_setCell k n σ x1 x2) τ)) := by
  refine m_start (by decide +kernel) (Nat.le_of_ble_eq_true rfl) rfl (fun p e s m args below meth c ls X I hl => ?_)
  have hl : lv_has ls 3 [(0, .ref (G.2.1 k)), (1, .int x1), (2, .int x2)] := hl
  obtain ⟨E, hE⟩ : ∃ E, E = (f11_setCell k n σ x1 x2) := ⟨_, rfl⟩
  rw [← hE]
  refine lv_iload_n X.1 X.2.1 dX11_setCell_0 rfl (lv_at hl 1 rfl) ?_
  refine lv_if_lt (tgt := 14) X.1 X.2.1 dX11_setCell_1 (by decide) (fun c_1 => ?_) (fun c_1 => ?_)
  · skip
    have h9 := hE.trans ((if_pos c_1).trans rfl)
    exact r_vret X I (e_v (h9).symm rfl) dX11_setCell_14
  · skip
    refine lv_iload_n X.1 X.2.1 dX11_setCell_4 rfl (lv_at hl 1 rfl) ?_
    refine lv_aload_n X.1 X.2.1 dX11_setCell_5 rfl (lv_at hl 0 rfl) ?_
    refine r_alen X I (k := k) (n := n) hk hd rfl dX11_setCell_6 ?_
    refine lv_icmp_ge (tgt := 14) X.1 X.2.1 dX11_setCell_7 (by decide) (fun c_2 => ?_) (fun c_2 => ?_)
    · skip
      have h9 := hE.trans ((if_neg c_1).trans ((if_pos c_2).trans rfl))
      exact r_vret X I (e_v (h9).symm rfl) dX11_setCell_14
    · skip
      refine lv_aload_n X.1 X.2.1 dX11_setCell_10 rfl (lv_at hl 0 rfl) ?_
      refine lv_iload_n X.1 X.2.1 dX11_setCell_11 rfl (lv_at hl 1 rfl) ?_
      refine lv_iload_n X.1 X.2.1 dX11_setCell_12 rfl (lv_at hl 2 rfl) ?_
      refine r_ast X I (k := k) (n := n) hk hd (vp_g (n := n) hn c_1 c_2) dX11_setCell_13 (fun H locs I => ?_)
      have h9 := hE.trans ((if_neg c_1).trans ((if_neg c_2).trans rfl))
      exact r_vret X I (e_v (h9).symm rfl) dX11_setCell_14
def f0_setGrievance (k : Nat) (σ : SI) (x1 : Int32) (x2 : Int32) : SI := let s0 := (f11_setCell (k + 1) 7 σ x1 x2); s0
theorem w_f0_setGrievance {k : Nat} (σ : SI) (x1 : Int32) (x2 : Int32) (a : Nat) (h0 : a ≠ (k + 1)) : (f0_setGrievance k σ x1 x2) a = σ a := by
  unfold f0_setGrievance
  (repeat' split) <;> (first | rfl | (simp only [sp_n, su_n, ne_eq, not_false_eq_true, h0, w_f11_setCell]; done) | (simp [sp_n, su_n, ne_eq, not_false_eq_true, h0, w_f11_setCell]; done))
set_option maxHeartbeats 4000000 in
set_option maxRecDepth 100000 in
theorem c0_setGrievance (l : Launch) (G : GT) {k : Nat} (hk : isDay k) (σ : SI) (τ : SL) (x1 : Int32) (x2 : Int32) : Mc l yX0_setGrievance cX0_setGrievance 3 none 1 G [.ref (G.2.1 k), .int x1, .int x2] σ τ (Qv G (Ev (f0_setGrievance k σ x1 x2) τ)) := by
  refine m_start (by decide +kernel) (Nat.le_of_ble_eq_true rfl) rfl (fun p e s m args below meth c ls X I hl => ?_)
  have hl : lv_has ls 3 [(0, .ref (G.2.1 k)), (1, .int x1), (2, .int x2)] := hl
  obtain ⟨E, hE⟩ : ∃ E, E = (f0_setGrievance k σ x1 x2) := ⟨_, rfl⟩
  rw [← hE]
  refine lv_aload_n X.1 X.2.1 dX0_setGrievance_0 rfl (lv_at hl 0 rfl) ?_
  refine g0_0 X I (k := k) (Nat.lt_of_le_of_lt (Nat.add_le_add_left (show 0 ≤ 1 by decide) k) hk.1) hk.2.1 lf_X0_9 dX0_setGrievance_1 ?_
  refine lv_iload_n X.1 X.2.1 dX0_setGrievance_4 rfl (lv_at hl 1 rfl) ?_
  refine lv_iload_n X.1 X.2.1 dX0_setGrievance_5 rfl (lv_at hl 2 rfl) ?_
  refine r_ev I (r_runN X I pk_X11_setCell (c11_setCell l G (k := (k + 1)) (n := 7) (Nat.lt_of_le_of_lt (Nat.add_le_add_left (show 1 ≤ 1 by decide) k) hk.1) hk.2.2 (by decide) _ _ _ _) (by decide +kernel) rfl hl.1 rfl (Nat.le_of_ble_eq_true rfl) dX0_setGrievance_6 ⟨Nat.le_of_ble_eq_true rfl, Nat.le_of_ble_eq_true rfl⟩ ⟨Nat.le_refl 0, Nat.le_refl 0⟩) (fun H locs I => ?_)
  have h9 := hE
  exact r_vret X I (e_v (h9).symm rfl) dX0_setGrievance_9
def f11_cellS (j : Nat) (x1 : Int32) : Int32 := if x1 < (0 : Int32) then (0 : Int32) else (if (Int32.ofNat (zL j)) ≤ x1 then (0 : Int32) else (zF j (Int32.toNatClampNeg x1)))
set_option maxHeartbeats 4000000 in
set_option maxRecDepth 100000 in
theorem c11_cellS (l : Launch) (G : GT) (j : Nat) (hj : j < 9) (σ : SI) (τ : SL) (x1 : Int32) : Mc l yX11_cell cX11_cell 2 (some .int) 0 G [.ref (G.2.2.2 j), .int x1] σ τ (Qi G (Ei (f11_cellS j x1) σ τ)) := by
  refine m_start (by decide +kernel) (Nat.le_of_ble_eq_true rfl) rfl (fun p e s m args below meth c ls X I hl => ?_)
  have hl : lv_has ls 2 [(0, .ref (G.2.2.2 j)), (1, .int x1)] := hl
  obtain ⟨E, hE⟩ : ∃ E, E = (f11_cellS j x1) := ⟨_, rfl⟩
  rw [← hE]
  refine lv_iload_n X.1 X.2.1 dX11_cell_0 rfl (lv_at hl 1 rfl) ?_
  refine lv_if_lt (tgt := 16) X.1 X.2.1 dX11_cell_1 (by decide) (fun c_1 => ?_) (fun c_1 => ?_)
  · skip
    refine lv_iconst (v := 0) X.1 X.2.1 dX11_cell_16 (by decide) ?_
    have h9 := hE.trans ((if_pos c_1).trans rfl)
    exact r_iret X I (e_i (h9).symm rfl rfl) dX11_cell_17
  · skip
    refine lv_iload_n X.1 X.2.1 dX11_cell_4 rfl (lv_at hl 1 rfl) ?_
    refine lv_aload_n X.1 X.2.1 dX11_cell_5 rfl (lv_at hl 0 rfl) ?_
    refine r_stlen X I j hj rfl dX11_cell_6 ?_
    refine lv_icmp_ge (tgt := 16) X.1 X.2.1 dX11_cell_7 (by decide) (fun c_2 => ?_) (fun c_2 => ?_)
    · skip
      refine lv_iconst (v := 0) X.1 X.2.1 dX11_cell_16 (by decide) ?_
      have h9 := hE.trans ((if_neg c_1).trans ((if_pos c_2).trans rfl))
      exact r_iret X I (e_i (h9).symm rfl rfl) dX11_cell_17
    · skip
      refine lv_aload_n X.1 X.2.1 dX11_cell_10 rfl (lv_at hl 0 rfl) ?_
      refine lv_iload_n X.1 X.2.1 dX11_cell_11 rfl (lv_at hl 1 rfl) ?_
      refine r_stld X I j hj (vp_g (n := (zL j)) (zL_lt hj) c_1 c_2) dX11_cell_12 ?_
      refine lv_goto (tgt := 17) X.1 X.2.1 dX11_cell_13 (by decide) ?_
      have h9 := hE.trans ((if_neg c_1).trans ((if_neg c_2).trans rfl))
      exact r_iret X I (e_i (h9).symm rfl rfl) dX11_cell_17
def f11_cell (k : Nat) (n : Nat) (σ : SI) (x1 : Int32) : Int32 := if x1 < (0 : Int32) then (0 : Int32) else (if (Int32.ofNat n) ≤ x1 then (0 : Int32) else (σ k (Int32.toNatClampNeg x1)))
set_option maxHeartbeats 4000000 in
set_option maxRecDepth 100000 in
theorem c11_cell (l : Launch) (G : GT) {k n : Nat} (hk : k < NW) (hd : kd k = 100 + n) (hn : n < 2 ^ 31) (σ : SI) (τ : SL) (x1 : Int32) : Mc l yX11_cell cX11_cell 2 (some .int) 0 G [.ref (G.2.1 k), .int x1] σ τ (Qi G (Ei (f11_cell k n σ x1) σ τ)) := by
  refine m_start (by decide +kernel) (Nat.le_of_ble_eq_true rfl) rfl (fun p e s m args below meth c ls X I hl => ?_)
  have hl : lv_has ls 2 [(0, .ref (G.2.1 k)), (1, .int x1)] := hl
  obtain ⟨E, hE⟩ : ∃ E, E = (f11_cell k n σ x1) := ⟨_, rfl⟩
  rw [← hE]
  refine lv_iload_n X.1 X.2.1 dX11_cell_0 rfl (lv_at hl 1 rfl) ?_
  refine lv_if_lt (tgt := 16) X.1 X.2.1 dX11_cell_1 (by decide) (fun c_1 => ?_) (fun c_1 => ?_)
  · skip
    refine lv_iconst (v := 0) X.1 X.2.1 dX11_cell_16 (by decide) ?_
    have h9 := hE.trans ((if_pos c_1).trans rfl)
    exact r_iret X I (e_i (h9).symm rfl rfl) dX11_cell_17
  · skip
    refine lv_iload_n X.1 X.2.1 dX11_cell_4 rfl (lv_at hl 1 rfl) ?_
    refine lv_aload_n X.1 X.2.1 dX11_cell_5 rfl (lv_at hl 0 rfl) ?_
    refine r_alen X I (k := k) (n := n) hk hd rfl dX11_cell_6 ?_
    refine lv_icmp_ge (tgt := 16) X.1 X.2.1 dX11_cell_7 (by decide) (fun c_2 => ?_) (fun c_2 => ?_)
    · skip
      refine lv_iconst (v := 0) X.1 X.2.1 dX11_cell_16 (by decide) ?_
      have h9 := hE.trans ((if_neg c_1).trans ((if_pos c_2).trans rfl))
      exact r_iret X I (e_i (h9).symm rfl rfl) dX11_cell_17
    · skip
      refine lv_aload_n X.1 X.2.1 dX11_cell_10 rfl (lv_at hl 0 rfl) ?_
      refine lv_iload_n X.1 X.2.1 dX11_cell_11 rfl (lv_at hl 1 rfl) ?_
      refine r_ald X I (k := k) (n := n) hk hd (vp_g (n := n) hn c_1 c_2) dX11_cell_12 ?_
      refine lv_goto (tgt := 17) X.1 X.2.1 dX11_cell_13 (by decide) ?_
      have h9 := hE.trans ((if_neg c_1).trans ((if_neg c_2).trans rfl))
      exact r_iret X I (e_i (h9).symm rfl rfl) dX11_cell_17
def f8_toldCoins (k : Nat) (σ : SI) : Int32 := (f11_cell (k + 1) 36 σ (1 : Int32))
set_option maxHeartbeats 4000000 in
set_option maxRecDepth 100000 in
theorem c8_toldCoins (l : Launch) (G : GT) {k : Nat} (hk : isTown k) (σ : SI) (τ : SL) : Mc l yX8_toldCoins cX8_toldCoins 1 (some .int) 1 G [.ref (G.2.1 k)] σ τ (Qi G (Ei (f8_toldCoins k σ) σ τ)) := by
  refine m_start (by decide +kernel) (Nat.le_of_ble_eq_true rfl) rfl (fun p e s m args below meth c ls X I hl => ?_)
  have hl : lv_has ls 1 [(0, .ref (G.2.1 k))] := hl
  obtain ⟨E, hE⟩ : ∃ E, E = (f8_toldCoins k σ) := ⟨_, rfl⟩
  rw [← hE]
  refine lv_aload_n X.1 X.2.1 dX8_toldCoins_0 rfl (lv_at hl 0 rfl) ?_
  refine g8_0 X I (k := k) (Nat.lt_of_le_of_lt (Nat.add_le_add_left (show 0 ≤ 2 by decide) k) hk.1) hk.2.1 lf_X8_9 dX8_toldCoins_1 ?_
  refine lv_iconst (v := 1) X.1 X.2.1 dX8_toldCoins_4 (by decide) ?_
  refine r_ei I (r_runN X I pk_X11_cell (c11_cell l G (k := (k + 1)) (n := 36) (Nat.lt_of_le_of_lt (Nat.add_le_add_left (show 1 ≤ 2 by decide) k) hk.1) hk.2.2.1 (by decide) _ _ _) (by decide +kernel) rfl hl.1 rfl (Nat.le_of_ble_eq_true rfl) dX8_toldCoins_5 ⟨Nat.le_of_ble_eq_true rfl, Nat.le_of_ble_eq_true rfl⟩ ⟨Nat.le_refl 0, Nat.le_refl 0⟩) (fun H locs I => ?_)
  have h9 := hE
  exact r_iret X I (e_i (h9).symm rfl rfl) dX8_toldCoins_8
def f8_houses (k : Nat) (σ : SI) : Int32 := (f11_cell (k + 2) 3 σ (1 : Int32))
set_option maxHeartbeats 4000000 in
set_option maxRecDepth 100000 in
theorem c8_houses (l : Launch) (G : GT) {k : Nat} (hk : isTown k) (σ : SI) (τ : SL) : Mc l yX8_houses cX8_houses 1 (some .int) 1 G [.ref (G.2.1 k)] σ τ (Qi G (Ei (f8_houses k σ) σ τ)) := by
  refine m_start (by decide +kernel) (Nat.le_of_ble_eq_true rfl) rfl (fun p e s m args below meth c ls X I hl => ?_)
  have hl : lv_has ls 1 [(0, .ref (G.2.1 k))] := hl
  obtain ⟨E, hE⟩ : ∃ E, E = (f8_houses k σ) := ⟨_, rfl⟩
  rw [← hE]
  refine lv_aload_n X.1 X.2.1 dX8_houses_0 rfl (lv_at hl 0 rfl) ?_
  refine g8_1 X I (k := k) (Nat.lt_of_le_of_lt (Nat.add_le_add_left (show 0 ≤ 2 by decide) k) hk.1) hk.2.1 lf_X8_15 dX8_houses_1 ?_
  refine lv_iconst (v := 1) X.1 X.2.1 dX8_houses_4 (by decide) ?_
  refine r_ei I (r_runN X I pk_X11_cell (c11_cell l G (k := (k + 2)) (n := 3) (Nat.lt_of_le_of_lt (Nat.add_le_add_left (show 2 ≤ 2 by decide) k) hk.1) hk.2.2.2 (by decide) _ _ _) (by decide +kernel) rfl hl.1 rfl (Nat.le_of_ble_eq_true rfl) dX8_houses_5 ⟨Nat.le_of_ble_eq_true rfl, Nat.le_of_ble_eq_true rfl⟩ ⟨Nat.le_refl 0, Nat.le_refl 0⟩) (fun H locs I => ?_)
  have h9 := hE
  exact r_iret X I (e_i (h9).symm rfl rfl) dX8_houses_8
def f8_isHouse (k : Nat) (σ : SI) (x1 : Int32) : Bool := if x1 < (0 : Int32) then false else (if (f8_houses k σ) ≤ x1 then false else true)
set_option maxHeartbeats 4000000 in
set_option maxRecDepth 100000 in
theorem c8_isHouse (l : Launch) (G : GT) {k : Nat} (hk : isTown k) (σ : SI) (τ : SL) (x1 : Int32) : Mc l yX8_isHouse cX8_isHouse 2 (some .boolean) 2 G [.ref (G.2.1 k), .int x1] σ τ (Qi G (Ei (b2i (f8_isHouse k σ x1)) σ τ)) := by
  refine m_start (by decide +kernel) (Nat.le_of_ble_eq_true rfl) rfl (fun p e s m args below meth c ls X I hl => ?_)
  have hl : lv_has ls 2 [(0, .ref (G.2.1 k)), (1, .int x1)] := hl
  obtain ⟨E, hE⟩ : ∃ E, E = (f8_isHouse k σ x1) := ⟨_, rfl⟩
  rw [← hE]
  refine lv_iload_n X.1 X.2.1 dX8_isHouse_0 rfl (lv_at hl 1 rfl) ?_
  refine lv_if_lt (tgt := 16) X.1 X.2.1 dX8_isHouse_1 (by decide) (fun c_1 => ?_) (fun c_1 => ?_)
  · skip
    refine lv_iconst (v := 0) X.1 X.2.1 dX8_isHouse_16 (by decide) ?_
    have h9 := hE.trans ((if_pos c_1).trans rfl)
    exact r_zret X I rfl (e_i (congrArg b2i (h9)).symm rfl rfl) dX8_isHouse_17
  · skip
    refine lv_iload_n X.1 X.2.1 dX8_isHouse_4 rfl (lv_at hl 1 rfl) ?_
    refine lv_aload_n X.1 X.2.1 dX8_isHouse_5 rfl (lv_at hl 0 rfl) ?_
    refine r_ei I (r_runV X I pk_X8_houses (c8_houses l G (k := k) hk _ _) lm_X8_54 (Nat.lt_of_le_of_lt (Nat.add_le_add_left (show 0 ≤ 2 by decide) k) hk.1) (cl_8 hk.2.1) rfl rfl rfl hl.1 rfl (Nat.le_of_ble_eq_true rfl) dX8_isHouse_6 ⟨Nat.le_of_ble_eq_true rfl, Nat.le_of_ble_eq_true rfl⟩ ⟨Nat.le_refl 0, Nat.le_refl 0⟩) (fun H locs I => ?_)
    refine lv_icmp_ge (tgt := 16) X.1 X.2.1 dX8_isHouse_9 (by decide) (fun c_2 => ?_) (fun c_2 => ?_)
    · skip
      refine lv_iconst (v := 0) X.1 X.2.1 dX8_isHouse_16 (by decide) ?_
      have h9 := hE.trans ((if_neg c_1).trans ((if_pos c_2).trans rfl))
      exact r_zret X I rfl (e_i (congrArg b2i (h9)).symm rfl rfl) dX8_isHouse_17
    · skip
      refine lv_iconst (v := 1) X.1 X.2.1 dX8_isHouse_12 (by decide) ?_
      refine lv_goto (tgt := 17) X.1 X.2.1 dX8_isHouse_13 (by decide) ?_
      have h9 := hE.trans ((if_neg c_1).trans ((if_neg c_2).trans rfl))
      exact r_zret X I rfl (e_i (congrArg b2i (h9)).symm rfl rfl) dX8_isHouse_17
def f8_ofHouse (k : Nat) (σ : SI) (x1 : Int32) (x2 : Int32) : Int32 := if (f8_isHouse k σ x1) = true then (f11_cell (k + 1) 36 σ (((f11_cellS 2 (1 : Int32)) + (x1 * (4 : Int32))) + x2)) else (0 : Int32)
set_option maxHeartbeats 4000000 in
set_option maxRecDepth 100000 in
theorem c8_ofHouse (l : Launch) (G : GT) {k : Nat} (hk : isTown k) (σ : SI) (τ : SL) (x1 : Int32) (x2 : Int32) : Mc l yX8_ofHouse cX8_ofHouse 3 (some .int) 3 G [.ref (G.2.1 k), .int x1, .int x2] σ τ (Qi G (Ei (f8_ofHouse k σ x1 x2) σ τ)) := by
  refine m_start (by decide +kernel) (Nat.le_of_ble_eq_true rfl) rfl (fun p e s m args below meth c ls X I hl => ?_)
  have hl : lv_has ls 3 [(0, .ref (G.2.1 k)), (1, .int x1), (2, .int x2)] := hl
  obtain ⟨E, hE⟩ : ∃ E, E = (f8_ofHouse k σ x1 x2) := ⟨_, rfl⟩
  rw [← hE]
  refine lv_aload_n X.1 X.2.1 dX8_ofHouse_0 rfl (lv_at hl 0 rfl) ?_
  refine lv_iload_n X.1 X.2.1 dX8_ofHouse_1 rfl (lv_at hl 1 rfl) ?_
  refine r_ei I (r_runV X I pk_X8_isHouse (c8_isHouse l G (k := k) hk _ _ _) lm_X8_69 (Nat.lt_of_le_of_lt (Nat.add_le_add_left (show 0 ≤ 2 by decide) k) hk.1) (cl_8 hk.2.1) rfl rfl rfl hl.1 rfl (Nat.le_of_ble_eq_true rfl) dX8_ofHouse_2 ⟨Nat.le_of_ble_eq_true rfl, Nat.le_of_ble_eq_true rfl⟩ ⟨Nat.le_refl 0, Nat.le_refl 0⟩) (fun H locs I => ?_)
  refine lv_if_eq (tgt := 31) X.1 X.2.1 dX8_ofHouse_5 (by decide) (fun c_1 => ?_) (fun c_1 => ?_)
  · skip
    refine lv_iconst (v := 0) X.1 X.2.1 dX8_ofHouse_31 (by decide) ?_
    have h9 := hE.trans ((if_neg (b2i_n c_1)).trans rfl)
    exact r_iret X I (e_i (h9).symm rfl rfl) dX8_ofHouse_32
  · skip
    refine lv_aload_n X.1 X.2.1 dX8_ofHouse_8 rfl (lv_at hl 0 rfl) ?_
    refine g8_0 X I (k := k) (Nat.lt_of_le_of_lt (Nat.add_le_add_left (show 0 ≤ 2 by decide) k) hk.1) hk.2.1 lf_X8_9 dX8_ofHouse_9 ?_
    refine r_sget X I 2 (by decide) (index := 39) (by decide +kernel) dX8_ofHouse_12 ?_
    refine lv_iconst (v := 1) X.1 X.2.1 dX8_ofHouse_15 (by decide) ?_
    refine r_ei I (r_runN X I pk_X11_cell (c11_cellS l G 2 (by decide) _ _ _) (by decide +kernel) rfl hl.1 rfl (Nat.le_of_ble_eq_true rfl) dX8_ofHouse_16 ⟨Nat.le_of_ble_eq_true rfl, Nat.le_of_ble_eq_true rfl⟩ ⟨Nat.le_refl 0, Nat.le_refl 0⟩) (fun H locs I => ?_)
    refine lv_iload_n X.1 X.2.1 dX8_ofHouse_19 rfl (lv_at hl 1 rfl) ?_
    refine lv_iconst (v := 4) X.1 X.2.1 dX8_ofHouse_20 (by decide) ?_
    refine lv_imul X.1 X.2.1 dX8_ofHouse_21 ?_
    refine lv_iadd X.1 X.2.1 dX8_ofHouse_22 ?_
    refine lv_iload_n X.1 X.2.1 dX8_ofHouse_23 rfl (lv_at hl 2 rfl) ?_
    refine lv_iadd X.1 X.2.1 dX8_ofHouse_24 ?_
    refine r_ei I (r_runN X I pk_X11_cell (c11_cell l G (k := (k + 1)) (n := 36) (Nat.lt_of_le_of_lt (Nat.add_le_add_left (show 1 ≤ 2 by decide) k) hk.1) hk.2.2.1 (by decide) _ _ _) (by decide +kernel) rfl hl.1 rfl (Nat.le_of_ble_eq_true rfl) dX8_ofHouse_25 ⟨Nat.le_of_ble_eq_true rfl, Nat.le_of_ble_eq_true rfl⟩ ⟨Nat.le_refl 0, Nat.le_refl 0⟩) (fun H locs I => ?_)
    refine lv_goto (tgt := 32) X.1 X.2.1 dX8_ofHouse_28 (by decide) ?_
    have h9 := hE.trans ((if_pos (b2i_y c_1)).trans rfl)
    exact r_iret X I (e_i (h9).symm rfl rfl) dX8_ofHouse_32
def f8_toldGrievance (k : Nat) (σ : SI) (x1 : Int32) : Int32 := (f8_ofHouse k σ x1 (2 : Int32))
set_option maxHeartbeats 4000000 in
set_option maxRecDepth 100000 in
theorem c8_toldGrievance (l : Launch) (G : GT) {k : Nat} (hk : isTown k) (σ : SI) (τ : SL) (x1 : Int32) : Mc l yX8_toldGrievance cX8_toldGrievance 2 (some .int) 4 G [.ref (G.2.1 k), .int x1] σ τ (Qi G (Ei (f8_toldGrievance k σ x1) σ τ)) := by
  refine m_start (by decide +kernel) (Nat.le_of_ble_eq_true rfl) rfl (fun p e s m args below meth c ls X I hl => ?_)
  have hl : lv_has ls 2 [(0, .ref (G.2.1 k)), (1, .int x1)] := hl
  obtain ⟨E, hE⟩ : ∃ E, E = (f8_toldGrievance k σ x1) := ⟨_, rfl⟩
  rw [← hE]
  refine lv_aload_n X.1 X.2.1 dX8_toldGrievance_0 rfl (lv_at hl 0 rfl) ?_
  refine lv_iload_n X.1 X.2.1 dX8_toldGrievance_1 rfl (lv_at hl 1 rfl) ?_
  refine lv_iconst (v := 2) X.1 X.2.1 dX8_toldGrievance_2 (by decide) ?_
  refine r_ei I (r_runV X I pk_X8_ofHouse (c8_ofHouse l G (k := k) hk _ _ _ _) lm_X8_73 (Nat.lt_of_le_of_lt (Nat.add_le_add_left (show 0 ≤ 2 by decide) k) hk.1) (cl_8 hk.2.1) rfl rfl rfl hl.1 rfl (Nat.le_of_ble_eq_true rfl) dX8_toldGrievance_3 ⟨Nat.le_of_ble_eq_true rfl, Nat.le_of_ble_eq_true rfl⟩ ⟨Nat.le_refl 0, Nat.le_refl 0⟩) (fun H locs I => ?_)
  have h9 := hE
  exact r_iret X I (e_i (h9).symm rfl rfl) dX8_toldGrievance_6
def f0_begin_c2 (k : Nat) (k1 : Nat) : Nat → Int32 → SI → SI
  | 0, _, σ => σ
  | fu + 1, v2, σ => if (7 : Int32) ≤ v2 then (let s0 := sp σ k 1 (f8_toldCoins k1 σ); let s1 := sp s0 k 6 (0 : Int32); let s2 := sp s1 k 7 (0 : Int32); let s3 := sp s2 k 8 (0 : Int32); let s4 := (f0_goHome k s3); s4) else (let s5 := (f0_setGrievance k σ v2 (f8_toldGrievance k1 σ v2)); (f0_begin_c2 k k1 fu (v2 + 1) s5))
def f0_begin (k : Nat) (k1 : Nat) (σ : SI) : SI := (f0_begin_c2 k k1 ((Int32.toInt (7 : Int32) - Int32.toInt (0 : Int32)).toNat + 1) (0 : Int32) σ)
theorem w_f0_begin_c2 {k : Nat} {k1 : Nat} (a : Nat) (h0 : a ≠ (k + 1)) (h1 : a ≠ k) : ∀ (fu : Nat) (v2 : Int32) (σ : SI), (f0_begin_c2 k k1 fu v2 σ) a = σ a := by
  intro fu
  induction fu with
  | zero => intros; rfl
  | succ fu ih =>
    intro v2 σ
    unfold f0_begin_c2
    (repeat' split) <;> (first | rfl | (simp only [sp_n, su_n, ne_eq, not_false_eq_true, h0, h1, w_f0_goHome, w_f0_setGrievance, ih]; done) | (simp [sp_n, su_n, ne_eq, not_false_eq_true, h0, h1, w_f0_goHome, w_f0_setGrievance, ih]; done))
theorem w_f0_begin {k : Nat} {k1 : Nat} (σ : SI) (a : Nat) (h0 : a ≠ (k + 1)) (h1 : a ≠ k) : (f0_begin k k1 σ) a = σ a := by
  unfold f0_begin
  (repeat' split) <;> (first | rfl | (simp only [sp_n, su_n, ne_eq, not_false_eq_true, h0, h1, w_f0_goHome, w_f0_setGrievance, w_f0_begin_c2]; done) | (simp [sp_n, su_n, ne_eq, not_false_eq_true, h0, h1, w_f0_goHome, w_f0_setGrievance, w_f0_begin_c2]; done))
set_option maxHeartbeats 4000000 in
set_option maxRecDepth 100000 in
theorem c0_begin_c2 {l : Launch} {p : Program} {e : Env} {s : State} {m : MethodId} {args : Array Value} {below : List Frame} {meth : Method} {c : Code} {G : GT} (X : CX p s m args meth c cX0_begin RX0 3 none G) {k : Nat} (hk : isDay k) {k1 : Nat} (hk1 : isTown k1) {E : SI} (τ : SL) : ∀ (fu : Nat) (v2 : Int32) (σ : SI) (H : Heap) (locs : List Loc) (ls : Array Slot), IX G s H locs σ τ → lv_has ls 3 [(0, .ref (G.2.1 k)), (1, .ref (G.2.1 k1)), (2, .int v2)] → (Int32.toInt (7 : Int32) - Int32.toInt v2).toNat < fu → E = (f0_begin_c2 k k1 fu v2 σ) → W p l e (rmN 5) s m args below meth c H locs 0 0 (MQ below ((Qv G (Ev E τ)) s.heap.size) args s 0 0 (AW G s.heap.size)) (F0 m 2 ls []) := by
  intro fu
  induction fu with
  | zero =>
    intro v2 σ H locs ls I hl  hm hE
    exact absurd hm (Nat.not_lt_zero _)
  | succ fu ih =>
    intro v2 σ H locs ls I hl  hm hE
    refine lv_iload_n X.1 X.2.1 dX0_begin_2 rfl (lv_at hl 2 rfl) ?_
    refine lv_bipush (v := 7) X.1 X.2.1 dX0_begin_3 (by decide) ?_
    refine lv_icmp_ge (tgt := 24) X.1 X.2.1 dX0_begin_5 (by decide) (fun c_1 => ?_) (fun c_1 => ?_)
    · skip
      refine lv_aload_n X.1 X.2.1 dX0_begin_24 rfl (lv_at hl 0 rfl) ?_
      refine lv_aload_n X.1 X.2.1 dX0_begin_25 rfl (lv_at hl 1 rfl) ?_
      refine r_ei I (r_runV X I pk_X8_toldCoins (c8_toldCoins l G (k := k1) hk1 _ _) lm_X0_29 (Nat.lt_of_le_of_lt (Nat.add_le_add_left (show 0 ≤ 2 by decide) k1) hk1.1) (cl_8 hk1.2.1) rfl rfl rfl hl.1 rfl (Nat.le_of_ble_eq_true rfl) dX0_begin_26 ⟨Nat.le_of_ble_eq_true rfl, Nat.le_of_ble_eq_true rfl⟩ ⟨Nat.le_refl 0, Nat.le_refl 0⟩) (fun H locs I => ?_)
      refine p0_1 X I (k := k) (Nat.lt_of_le_of_lt (Nat.add_le_add_left (show 0 ≤ 1 by decide) k) hk.1) hk.2.1 lf_X0_33 dX0_begin_29 (fun H locs I => ?_)
      refine lv_aload_n X.1 X.2.1 dX0_begin_32 rfl (lv_at hl 0 rfl) ?_
      refine lv_iconst (v := 0) X.1 X.2.1 dX0_begin_33 (by decide) ?_
      refine p0_6 X I (k := k) (Nat.lt_of_le_of_lt (Nat.add_le_add_left (show 0 ≤ 1 by decide) k) hk.1) hk.2.1 lf_X0_36 dX0_begin_34 (fun H locs I => ?_)
      refine lv_aload_n X.1 X.2.1 dX0_begin_37 rfl (lv_at hl 0 rfl) ?_
      refine lv_iconst (v := 0) X.1 X.2.1 dX0_begin_38 (by decide) ?_
      refine p0_7 X I (k := k) (Nat.lt_of_le_of_lt (Nat.add_le_add_left (show 0 ≤ 1 by decide) k) hk.1) hk.2.1 lf_X0_39 dX0_begin_39 (fun H locs I => ?_)
      refine lv_aload_n X.1 X.2.1 dX0_begin_42 rfl (lv_at hl 0 rfl) ?_
      refine lv_iconst (v := 0) X.1 X.2.1 dX0_begin_43 (by decide) ?_
      refine p0_8 X I (k := k) (Nat.lt_of_le_of_lt (Nat.add_le_add_left (show 0 ≤ 1 by decide) k) hk.1) hk.2.1 lf_X0_42 dX0_begin_44 (fun H locs I => ?_)
      refine lv_aload_n X.1 X.2.1 dX0_begin_47 rfl (lv_at hl 0 rfl) ?_
      refine r_ev I (r_runV X I pk_X0_goHome (c0_goHome l G (k := k) hk _ _) lm_X0_45 (Nat.lt_of_le_of_lt (Nat.add_le_add_left (show 0 ≤ 1 by decide) k) hk.1) (cl_0 hk.2.1) rfl rfl rfl hl.1 rfl (Nat.le_of_ble_eq_true rfl) dX0_begin_48 ⟨Nat.le_of_ble_eq_true rfl, Nat.le_of_ble_eq_true rfl⟩ ⟨Nat.le_refl 0, Nat.le_refl 0⟩) (fun H locs I => ?_)
      have h9 := hE.trans ((if_pos c_1).trans rfl)
      exact r_vret X I (e_v (h9).symm rfl) dX0_begin_51
    · skip
      refine lv_aload_n X.1 X.2.1 dX0_begin_8 rfl (lv_at hl 0 rfl) ?_
      refine lv_iload_n X.1 X.2.1 dX0_begin_9 rfl (lv_at hl 2 rfl) ?_
      refine lv_aload_n X.1 X.2.1 dX0_begin_10 rfl (lv_at hl 1 rfl) ?_
      refine lv_iload_n X.1 X.2.1 dX0_begin_11 rfl (lv_at hl 2 rfl) ?_
      refine r_ei I (r_runV X I pk_X8_toldGrievance (c8_toldGrievance l G (k := k1) hk1 _ _ _) lm_X0_19 (Nat.lt_of_le_of_lt (Nat.add_le_add_left (show 0 ≤ 2 by decide) k1) hk1.1) (cl_8 hk1.2.1) rfl rfl rfl hl.1 rfl (Nat.le_of_ble_eq_true rfl) dX0_begin_12 ⟨Nat.le_of_ble_eq_true rfl, Nat.le_of_ble_eq_true rfl⟩ ⟨Nat.le_refl 0, Nat.le_refl 0⟩) (fun H locs I => ?_)
      refine r_ev I (r_runV X I pk_X0_setGrievance (c0_setGrievance l G (k := k) hk _ _ _ _) lm_X0_25 (Nat.lt_of_le_of_lt (Nat.add_le_add_left (show 0 ≤ 1 by decide) k) hk.1) (cl_0 hk.2.1) rfl rfl rfl hl.1 rfl (Nat.le_of_ble_eq_true rfl) dX0_begin_15 ⟨Nat.le_of_ble_eq_true rfl, Nat.le_of_ble_eq_true rfl⟩ ⟨Nat.le_refl 0, Nat.le_refl 0⟩) (fun H locs I => ?_)
      refine lv_iinc (v := _ + 1) (lv' := [(2, .int _), (0, .ref _), (1, .ref _)]) X.1 X.2.1 dX0_begin_18 hl (k := 2) rfl rfl (by decide) rfl (fun ls hl => ?_)
      refine lv_goto (tgt := 2) X.1 X.2.1 dX0_begin_21 (by decide) ?_
      exact ih _ _ _ _ _ I (lv_sub hl [1, 2, 0] rfl) (Nat.lt_of_lt_of_le (up_dec c_1) (Nat.le_of_lt_succ hm)) (hE.trans ((if_neg c_1).trans rfl))
set_option maxHeartbeats 4000000 in
set_option maxRecDepth 100000 in
theorem c0_begin (l : Launch) (G : GT) {k : Nat} (hk : isDay k) {k1 : Nat} (hk1 : isTown k1) (σ : SI) (τ : SL) : Mc l yX0_begin cX0_begin 3 none 5 G [.ref (G.2.1 k), .ref (G.2.1 k1)] σ τ (Qv G (Ev (f0_begin k k1 σ) τ)) := by
  refine m_start (by decide +kernel) (Nat.le_of_ble_eq_true rfl) rfl (fun p e s m args below meth c ls X I hl => ?_)
  have hl : lv_has ls 3 [(0, .ref (G.2.1 k)), (1, .ref (G.2.1 k1))] := hl
  obtain ⟨E, hE⟩ : ∃ E, E = (f0_begin k k1 σ) := ⟨_, rfl⟩
  rw [← hE]
  refine lv_iconst (v := 0) X.1 X.2.1 dX0_begin_0 (by decide) ?_
  refine lv_istore_n (lv' := [(2, .int _), (0, .ref _), (1, .ref _)]) X.1 X.2.1 dX0_begin_1 rfl hl (by decide) rfl (fun ls hl => ?_)
  exact c0_begin_c2 X hk hk1 _  _ _ _ _ _ _ I (lv_sub hl [1, 2, 0] rfl) (Nat.lt_succ_self _) (hE.trans (rfl))
def f0_copy (k : Nat) (k1 : Nat) (σ : SI) : SI := let s0 := su σ (k + 1) (va_cpy (σ (k1 + 1)) (σ (k + 1)) 0 0 7); let s1 := sp s0 k 1 (s0 k1 1); let s2 := sp s1 k 2 (s1 k1 2); let s3 := sp s2 k 3 (s2 k1 3); let s4 := sp s3 k 4 (s3 k1 4); let s5 := sp s4 k 5 (s4 k1 5); let s6 := sp s5 k 6 (s5 k1 6); let s7 := sp s6 k 7 (s6 k1 7); let s8 := sp s7 k 8 (s7 k1 8); s8
theorem w_f0_copy {k : Nat} {k1 : Nat} (σ : SI) (a : Nat) (h0 : a ≠ (k + 1)) (h1 : a ≠ k) : (f0_copy k k1 σ) a = σ a := by
  unfold f0_copy
  (repeat' split) <;> (first | rfl | (simp only [sp_n, su_n, ne_eq, not_false_eq_true, h0, h1]; done) | (simp [sp_n, su_n, ne_eq, not_false_eq_true, h0, h1]; done))
set_option maxHeartbeats 4000000 in
set_option maxRecDepth 100000 in
theorem c0_copy (l : Launch) (G : GT) {k : Nat} (hk : isDay k) {k1 : Nat} (hk1 : isDay k1) (σ : SI) (τ : SL) : Mc l yX0_copy cX0_copy 2 none 2 G [.ref (G.2.1 k), .ref (G.2.1 k1)] σ τ (Qv G (Ev (f0_copy k k1 σ) τ)) := by
  refine m_start (by decide +kernel) (Nat.le_of_ble_eq_true rfl) rfl (fun p e s m args below meth c ls X I hl => ?_)
  have hl : lv_has ls 2 [(0, .ref (G.2.1 k)), (1, .ref (G.2.1 k1))] := hl
  obtain ⟨E, hE⟩ : ∃ E, E = (f0_copy k k1 σ) := ⟨_, rfl⟩
  rw [← hE]
  refine lv_aload_n X.1 X.2.1 dX0_copy_0 rfl (lv_at hl 1 rfl) ?_
  refine g0_0 X I (k := k1) (Nat.lt_of_le_of_lt (Nat.add_le_add_left (show 0 ≤ 1 by decide) k1) hk1.1) hk1.2.1 lf_X0_9 dX0_copy_1 ?_
  refine lv_iconst (v := 0) X.1 X.2.1 dX0_copy_4 (by decide) ?_
  refine lv_aload_n X.1 X.2.1 dX0_copy_5 rfl (lv_at hl 0 rfl) ?_
  refine g0_0 X I (k := k) (Nat.lt_of_le_of_lt (Nat.add_le_add_left (show 0 ≤ 1 by decide) k) hk.1) hk.2.1 lf_X0_9 dX0_copy_6 ?_
  refine lv_iconst (v := 0) X.1 X.2.1 dX0_copy_9 (by decide) ?_
  refine lv_bipush (v := 7) X.1 X.2.1 dX0_copy_10 (by decide) ?_
  refine r_copy X I hl.1 (k0 := (k1 + 1)) (n0 := 7) (k1 := (k + 1)) (n1 := 7) (Nat.lt_of_le_of_lt (Nat.add_le_add_left (show 1 ≤ 1 by decide) k1) hk1.1) hk1.2.2 (Nat.lt_of_le_of_lt (Nat.add_le_add_left (show 1 ≤ 1 by decide) k) hk.1) hk.2.2 (N := 7) (n := 7) (by decide) (by decide) (by decide) rfl (Nat.le_of_ble_eq_true rfl) (Nat.le_of_ble_eq_true rfl) lm_X0_57 dX0_copy_12 (Nat.le_of_ble_eq_true rfl) (Nat.le_of_ble_eq_true rfl) (fun H locs I => ?_)
  refine lv_aload_n X.1 X.2.1 dX0_copy_15 rfl (lv_at hl 0 rfl) ?_
  refine lv_aload_n X.1 X.2.1 dX0_copy_16 rfl (lv_at hl 1 rfl) ?_
  refine g0_1 X I (k := k1) (Nat.lt_of_le_of_lt (Nat.add_le_add_left (show 0 ≤ 1 by decide) k1) hk1.1) hk1.2.1 lf_X0_33 dX0_copy_17 ?_
  refine p0_1 X I (k := k) (Nat.lt_of_le_of_lt (Nat.add_le_add_left (show 0 ≤ 1 by decide) k) hk.1) hk.2.1 lf_X0_33 dX0_copy_20 (fun H locs I => ?_)
  refine lv_aload_n X.1 X.2.1 dX0_copy_23 rfl (lv_at hl 0 rfl) ?_
  refine lv_aload_n X.1 X.2.1 dX0_copy_24 rfl (lv_at hl 1 rfl) ?_
  refine g0_2 X I (k := k1) (Nat.lt_of_le_of_lt (Nat.add_le_add_left (show 0 ≤ 1 by decide) k1) hk1.1) hk1.2.1 lf_X0_48 dX0_copy_25 ?_
  refine p0_2 X I (k := k) (Nat.lt_of_le_of_lt (Nat.add_le_add_left (show 0 ≤ 1 by decide) k) hk.1) hk.2.1 lf_X0_48 dX0_copy_28 (fun H locs I => ?_)
  refine lv_aload_n X.1 X.2.1 dX0_copy_31 rfl (lv_at hl 0 rfl) ?_
  refine lv_aload_n X.1 X.2.1 dX0_copy_32 rfl (lv_at hl 1 rfl) ?_
  refine g0_3 X I (k := k1) (Nat.lt_of_le_of_lt (Nat.add_le_add_left (show 0 ≤ 1 by decide) k1) hk1.1) hk1.2.1 lf_X0_51 dX0_copy_33 ?_
  refine p0_3 X I (k := k) (Nat.lt_of_le_of_lt (Nat.add_le_add_left (show 0 ≤ 1 by decide) k) hk.1) hk.2.1 lf_X0_51 dX0_copy_36 (fun H locs I => ?_)
  refine lv_aload_n X.1 X.2.1 dX0_copy_39 rfl (lv_at hl 0 rfl) ?_
  refine lv_aload_n X.1 X.2.1 dX0_copy_40 rfl (lv_at hl 1 rfl) ?_
  refine g0_4 X I (k := k1) (Nat.lt_of_le_of_lt (Nat.add_le_add_left (show 0 ≤ 1 by decide) k1) hk1.1) hk1.2.1 lf_X0_15 dX0_copy_41 ?_
  refine p0_4 X I (k := k) (Nat.lt_of_le_of_lt (Nat.add_le_add_left (show 0 ≤ 1 by decide) k) hk.1) hk.2.1 lf_X0_15 dX0_copy_44 (fun H locs I => ?_)
  refine lv_aload_n X.1 X.2.1 dX0_copy_47 rfl (lv_at hl 0 rfl) ?_
  refine lv_aload_n X.1 X.2.1 dX0_copy_48 rfl (lv_at hl 1 rfl) ?_
  refine g0_5 X I (k := k1) (Nat.lt_of_le_of_lt (Nat.add_le_add_left (show 0 ≤ 1 by decide) k1) hk1.1) hk1.2.1 lf_X0_54 dX0_copy_49 ?_
  refine p0_5 X I (k := k) (Nat.lt_of_le_of_lt (Nat.add_le_add_left (show 0 ≤ 1 by decide) k) hk.1) hk.2.1 lf_X0_54 dX0_copy_52 (fun H locs I => ?_)
  refine lv_aload_n X.1 X.2.1 dX0_copy_55 rfl (lv_at hl 0 rfl) ?_
  refine lv_aload_n X.1 X.2.1 dX0_copy_56 rfl (lv_at hl 1 rfl) ?_
  refine g0_6 X I (k := k1) (Nat.lt_of_le_of_lt (Nat.add_le_add_left (show 0 ≤ 1 by decide) k1) hk1.1) hk1.2.1 lf_X0_36 dX0_copy_57 ?_
  refine p0_6 X I (k := k) (Nat.lt_of_le_of_lt (Nat.add_le_add_left (show 0 ≤ 1 by decide) k) hk.1) hk.2.1 lf_X0_36 dX0_copy_60 (fun H locs I => ?_)
  refine lv_aload_n X.1 X.2.1 dX0_copy_63 rfl (lv_at hl 0 rfl) ?_
  refine lv_aload_n X.1 X.2.1 dX0_copy_64 rfl (lv_at hl 1 rfl) ?_
  refine g0_7 X I (k := k1) (Nat.lt_of_le_of_lt (Nat.add_le_add_left (show 0 ≤ 1 by decide) k1) hk1.1) hk1.2.1 lf_X0_39 dX0_copy_65 ?_
  refine p0_7 X I (k := k) (Nat.lt_of_le_of_lt (Nat.add_le_add_left (show 0 ≤ 1 by decide) k) hk.1) hk.2.1 lf_X0_39 dX0_copy_68 (fun H locs I => ?_)
  refine lv_aload_n X.1 X.2.1 dX0_copy_71 rfl (lv_at hl 0 rfl) ?_
  refine lv_aload_n X.1 X.2.1 dX0_copy_72 rfl (lv_at hl 1 rfl) ?_
  refine g0_8 X I (k := k1) (Nat.lt_of_le_of_lt (Nat.add_le_add_left (show 0 ≤ 1 by decide) k1) hk1.1) hk1.2.1 lf_X0_42 dX0_copy_73 ?_
  refine p0_8 X I (k := k) (Nat.lt_of_le_of_lt (Nat.add_le_add_left (show 0 ≤ 1 by decide) k) hk.1) hk.2.1 lf_X0_42 dX0_copy_76 (fun H locs I => ?_)
  have h9 := hE
  exact r_vret X I (e_v (h9).symm rfl) dX0_copy_79
def f0_grievanceOf (k : Nat) (σ : SI) (x1 : Int32) : Int32 := (f11_cell (k + 1) 7 σ x1)
set_option maxHeartbeats 4000000 in
set_option maxRecDepth 100000 in
theorem c0_grievanceOf (l : Launch) (G : GT) {k : Nat} (hk : isDay k) (σ : SI) (τ : SL) (x1 : Int32) : Mc l yX0_grievanceOf cX0_grievanceOf 2 (some .int) 1 G [.ref (G.2.1 k), .int x1] σ τ (Qi G (Ei (f0_grievanceOf k σ x1) σ τ)) := by
  refine m_start (by decide +kernel) (Nat.le_of_ble_eq_true rfl) rfl (fun p e s m args below meth c ls X I hl => ?_)
  have hl : lv_has ls 2 [(0, .ref (G.2.1 k)), (1, .int x1)] := hl
  obtain ⟨E, hE⟩ : ∃ E, E = (f0_grievanceOf k σ x1) := ⟨_, rfl⟩
  rw [← hE]
  refine lv_aload_n X.1 X.2.1 dX0_grievanceOf_0 rfl (lv_at hl 0 rfl) ?_
  refine g0_0 X I (k := k) (Nat.lt_of_le_of_lt (Nat.add_le_add_left (show 0 ≤ 1 by decide) k) hk.1) hk.2.1 lf_X0_9 dX0_grievanceOf_1 ?_
  refine lv_iload_n X.1 X.2.1 dX0_grievanceOf_4 rfl (lv_at hl 1 rfl) ?_
  refine r_ei I (r_runN X I pk_X11_cell (c11_cell l G (k := (k + 1)) (n := 7) (Nat.lt_of_le_of_lt (Nat.add_le_add_left (show 1 ≤ 1 by decide) k) hk.1) hk.2.2 (by decide) _ _ _) (by decide +kernel) rfl hl.1 rfl (Nat.le_of_ble_eq_true rfl) dX0_grievanceOf_5 ⟨Nat.le_of_ble_eq_true rfl, Nat.le_of_ble_eq_true rfl⟩ ⟨Nat.le_refl 0, Nat.le_refl 0⟩) (fun H locs I => ?_)
  have h9 := hE
  exact r_iret X I (e_i (h9).symm rfl rfl) dX0_grievanceOf_8
def f11_hasBit (x0 : Int32) (x1 : Int32) : Bool := if x1 < (0 : Int32) then false else (if (31 : Int32) ≤ x1 then false else (if ((x0 >>> (x1 &&& 31)) &&& (1 : Int32)) = (1 : Int32) then true else false))
set_option maxHeartbeats 4000000 in
set_option maxRecDepth 100000 in
theorem c11_hasBit (l : Launch) (G : GT) (σ : SI) (τ : SL) (x0 : Int32) (x1 : Int32) : Mc l yX11_hasBit cX11_hasBit 2 (some .boolean) 0 G [.int x0, .int x1] σ τ (Qi G (Ei (b2i (f11_hasBit x0 x1)) σ τ)) := by
  refine m_start (by decide +kernel) (Nat.le_of_ble_eq_true rfl) rfl (fun p e s m args below meth c ls X I hl => ?_)
  have hl : lv_has ls 2 [(0, .int x0), (1, .int x1)] := hl
  obtain ⟨E, hE⟩ : ∃ E, E = (f11_hasBit x0 x1) := ⟨_, rfl⟩
  rw [← hE]
  refine lv_iload_n X.1 X.2.1 dX11_hasBit_0 rfl (lv_at hl 1 rfl) ?_
  refine lv_if_lt (tgt := 23) X.1 X.2.1 dX11_hasBit_1 (by decide) (fun c_1 => ?_) (fun c_1 => ?_)
  · skip
    refine lv_iconst (v := 0) X.1 X.2.1 dX11_hasBit_23 (by decide) ?_
    have h9 := hE.trans ((if_pos c_1).trans rfl)
    exact r_zret X I rfl (e_i (congrArg b2i (h9)).symm rfl rfl) dX11_hasBit_24
  · skip
    refine lv_iload_n X.1 X.2.1 dX11_hasBit_4 rfl (lv_at hl 1 rfl) ?_
    refine lv_bipush (v := 31) X.1 X.2.1 dX11_hasBit_5 (by decide) ?_
    refine lv_icmp_ge (tgt := 23) X.1 X.2.1 dX11_hasBit_7 (by decide) (fun c_2 => ?_) (fun c_2 => ?_)
    · skip
      refine lv_iconst (v := 0) X.1 X.2.1 dX11_hasBit_23 (by decide) ?_
      have h9 := hE.trans ((if_neg c_1).trans ((if_pos c_2).trans rfl))
      exact r_zret X I rfl (e_i (congrArg b2i (h9)).symm rfl rfl) dX11_hasBit_24
    · skip
      refine lv_iload_n X.1 X.2.1 dX11_hasBit_10 rfl (lv_at hl 0 rfl) ?_
      refine lv_iload_n X.1 X.2.1 dX11_hasBit_11 rfl (lv_at hl 1 rfl) ?_
      refine lv_ishr X.1 X.2.1 dX11_hasBit_12 ?_
      refine lv_iconst (v := 1) X.1 X.2.1 dX11_hasBit_13 (by decide) ?_
      refine lv_iand X.1 X.2.1 dX11_hasBit_14 ?_
      refine lv_iconst (v := 1) X.1 X.2.1 dX11_hasBit_15 (by decide) ?_
      refine lv_icmp_ne (tgt := 23) X.1 X.2.1 dX11_hasBit_16 (by decide) (fun c_3 => ?_) (fun c_3 => ?_)
      · skip
        refine lv_iconst (v := 0) X.1 X.2.1 dX11_hasBit_23 (by decide) ?_
        have h9 := hE.trans ((if_neg c_1).trans ((if_neg c_2).trans ((if_neg c_3).trans rfl)))
        exact r_zret X I rfl (e_i (congrArg b2i (h9)).symm rfl rfl) dX11_hasBit_24
      · skip
        refine lv_iconst (v := 1) X.1 X.2.1 dX11_hasBit_19 (by decide) ?_
        refine lv_goto (tgt := 24) X.1 X.2.1 dX11_hasBit_20 (by decide) ?_
        have h9 := hE.trans ((if_neg c_1).trans ((if_neg c_2).trans ((if_pos c_3).trans rfl)))
        exact r_zret X I rfl (e_i (congrArg b2i (h9)).symm rfl rfl) dX11_hasBit_24
def f0_wasAt (k : Nat) (σ : SI) (x1 : Int32) : Bool := (f11_hasBit (σ k 5) x1)
set_option maxHeartbeats 4000000 in
set_option maxRecDepth 100000 in
theorem c0_wasAt (l : Launch) (G : GT) {k : Nat} (hk : isDay k) (σ : SI) (τ : SL) (x1 : Int32) : Mc l yX0_wasAt cX0_wasAt 2 (some .boolean) 1 G [.ref (G.2.1 k), .int x1] σ τ (Qi G (Ei (b2i (f0_wasAt k σ x1)) σ τ)) := by
  refine m_start (by decide +kernel) (Nat.le_of_ble_eq_true rfl) rfl (fun p e s m args below meth c ls X I hl => ?_)
  have hl : lv_has ls 2 [(0, .ref (G.2.1 k)), (1, .int x1)] := hl
  obtain ⟨E, hE⟩ : ∃ E, E = (f0_wasAt k σ x1) := ⟨_, rfl⟩
  rw [← hE]
  refine lv_aload_n X.1 X.2.1 dX0_wasAt_0 rfl (lv_at hl 0 rfl) ?_
  refine g0_5 X I (k := k) (Nat.lt_of_le_of_lt (Nat.add_le_add_left (show 0 ≤ 1 by decide) k) hk.1) hk.2.1 lf_X0_54 dX0_wasAt_1 ?_
  refine lv_iload_n X.1 X.2.1 dX0_wasAt_4 rfl (lv_at hl 1 rfl) ?_
  refine r_ei I (r_runN X I pk_X11_hasBit (c11_hasBit l G _ _ _ _) (by decide +kernel) rfl hl.1 rfl (Nat.le_of_ble_eq_true rfl) dX0_wasAt_5 ⟨Nat.le_of_ble_eq_true rfl, Nat.le_of_ble_eq_true rfl⟩ ⟨Nat.le_refl 0, Nat.le_refl 0⟩) (fun H locs I => ?_)
  have h9 := hE
  exact r_zret X I (b2i_nar _) (e_i (congrArg b2i (h9)).symm rfl rfl) dX0_wasAt_8
def fbitCount (x0 : Int32) : Int32 := ((((((((x0 - (((Int32.toUInt32 x0 >>> (Int32.toUInt32 (1 : Int32) &&& Int32.toUInt32 31)).toInt32) &&& (1431655765 : Int32))) &&& (858993459 : Int32)) + (((Int32.toUInt32 (x0 - (((Int32.toUInt32 x0 >>> (Int32.toUInt32 (1 : Int32) &&& Int32.toUInt32 31)).toInt32) &&& (1431655765 : Int32))) >>> (Int32.toUInt32 (2 : Int32) &&& Int32.toUInt32 31)).toInt32) &&& (858993459 : Int32))) + ((Int32.toUInt32 (((x0 - (((Int32.toUInt32 x0 >>> (Int32.toUInt32 (1 : Int32) &&& Int32.toUInt32 31)).toInt32) &&& (1431655765 : Int32))) &&& (858993459 : Int32)) + (((Int32.toUInt32 (x0 - (((Int32.toUInt32 x0 >>> (Int32.toUInt32 (1 : Int32) &&& Int32.toUInt32 31)).toInt32) &&& (1431655765 : Int32))) >>> (Int32.toUInt32 (2 : Int32) &&& Int32.toUInt32 31)).toInt32) &&& (858993459 : Int32))) >>> (Int32.toUInt32 (4 : Int32) &&& Int32.toUInt32 31)).toInt32)) &&& (252645135 : Int32)) + ((Int32.toUInt32 (((((x0 - (((Int32.toUInt32 x0 >>> (Int32.toUInt32 (1 : Int32) &&& Int32.toUInt32 31)).toInt32) &&& (1431655765 : Int32))) &&& (858993459 : Int32)) + (((Int32.toUInt32 (x0 - (((Int32.toUInt32 x0 >>> (Int32.toUInt32 (1 : Int32) &&& Int32.toUInt32 31)).toInt32) &&& (1431655765 : Int32))) >>> (Int32.toUInt32 (2 : Int32) &&& Int32.toUInt32 31)).toInt32) &&& (858993459 : Int32))) + ((Int32.toUInt32 (((x0 - (((Int32.toUInt32 x0 >>> (Int32.toUInt32 (1 : Int32) &&& Int32.toUInt32 31)).toInt32) &&& (1431655765 : Int32))) &&& (858993459 : Int32)) + (((Int32.toUInt32 (x0 - (((Int32.toUInt32 x0 >>> (Int32.toUInt32 (1 : Int32) &&& Int32.toUInt32 31)).toInt32) &&& (1431655765 : Int32))) >>> (Int32.toUInt32 (2 : Int32) &&& Int32.toUInt32 31)).toInt32) &&& (858993459 : Int32))) >>> (Int32.toUInt32 (4 : Int32) &&& Int32.toUInt32 31)).toInt32)) &&& (252645135 : Int32)) >>> (Int32.toUInt32 (8 : Int32) &&& Int32.toUInt32 31)).toInt32)) + ((Int32.toUInt32 ((((((x0 - (((Int32.toUInt32 x0 >>> (Int32.toUInt32 (1 : Int32) &&& Int32.toUInt32 31)).toInt32) &&& (1431655765 : Int32))) &&& (858993459 : Int32)) + (((Int32.toUInt32 (x0 - (((Int32.toUInt32 x0 >>> (Int32.toUInt32 (1 : Int32) &&& Int32.toUInt32 31)).toInt32) &&& (1431655765 : Int32))) >>> (Int32.toUInt32 (2 : Int32) &&& Int32.toUInt32 31)).toInt32) &&& (858993459 : Int32))) + ((Int32.toUInt32 (((x0 - (((Int32.toUInt32 x0 >>> (Int32.toUInt32 (1 : Int32) &&& Int32.toUInt32 31)).toInt32) &&& (1431655765 : Int32))) &&& (858993459 : Int32)) + (((Int32.toUInt32 (x0 - (((Int32.toUInt32 x0 >>> (Int32.toUInt32 (1 : Int32) &&& Int32.toUInt32 31)).toInt32) &&& (1431655765 : Int32))) >>> (Int32.toUInt32 (2 : Int32) &&& Int32.toUInt32 31)).toInt32) &&& (858993459 : Int32))) >>> (Int32.toUInt32 (4 : Int32) &&& Int32.toUInt32 31)).toInt32)) &&& (252645135 : Int32)) + ((Int32.toUInt32 (((((x0 - (((Int32.toUInt32 x0 >>> (Int32.toUInt32 (1 : Int32) &&& Int32.toUInt32 31)).toInt32) &&& (1431655765 : Int32))) &&& (858993459 : Int32)) + (((Int32.toUInt32 (x0 - (((Int32.toUInt32 x0 >>> (Int32.toUInt32 (1 : Int32) &&& Int32.toUInt32 31)).toInt32) &&& (1431655765 : Int32))) >>> (Int32.toUInt32 (2 : Int32) &&& Int32.toUInt32 31)).toInt32) &&& (858993459 : Int32))) + ((Int32.toUInt32 (((x0 - (((Int32.toUInt32 x0 >>> (Int32.toUInt32 (1 : Int32) &&& Int32.toUInt32 31)).toInt32) &&& (1431655765 : Int32))) &&& (858993459 : Int32)) + (((Int32.toUInt32 (x0 - (((Int32.toUInt32 x0 >>> (Int32.toUInt32 (1 : Int32) &&& Int32.toUInt32 31)).toInt32) &&& (1431655765 : Int32))) >>> (Int32.toUInt32 (2 : Int32) &&& Int32.toUInt32 31)).toInt32) &&& (858993459 : Int32))) >>> (Int32.toUInt32 (4 : Int32) &&& Int32.toUInt32 31)).toInt32)) &&& (252645135 : Int32)) >>> (Int32.toUInt32 (8 : Int32) &&& Int32.toUInt32 31)).toInt32)) >>> (Int32.toUInt32 (16 : Int32) &&& Int32.toUInt32 31)).toInt32)) &&& (63 : Int32))
set_option maxHeartbeats 4000000 in
set_option maxRecDepth 100000 in
theorem cbitCount (l : Launch) (G : GT) (σ : SI) (τ : SL) (x0 : Int32) : Mc l yJ6_bitCount_0f7a4 cJ6_bitCount_0f7a4 1 (some .int) 0 G [.int x0] σ τ (Qi G (Ei (fbitCount x0) σ τ)) := by
  refine m_start (by decide +kernel) (Nat.le_of_ble_eq_true rfl) rfl (fun p e s m args below meth c ls X I hl => ?_)
  have hl : lv_has ls 1 [(0, .int x0)] := hl
  obtain ⟨E, hE⟩ : ∃ E, E = (fbitCount x0) := ⟨_, rfl⟩
  rw [← hE]
  refine lv_iload_n X.1 X.2.1 dJ6_bitCount_0f7a4_0 rfl (lv_at hl 0 rfl) ?_
  refine lv_iload_n X.1 X.2.1 dJ6_bitCount_0f7a4_1 rfl (lv_at hl 0 rfl) ?_
  refine lv_iconst (v := 1) X.1 X.2.1 dJ6_bitCount_0f7a4_2 (by decide) ?_
  refine lv_iushr X.1 X.2.1 dJ6_bitCount_0f7a4_3 rfl ?_
  refine lv_ldcw X.1 X.2.1 (v := 1431655765) X.2.2.2.2.1 (X.2.2.2.1 _ lq_J6_265) dJ6_bitCount_0f7a4_4 ?_
  refine lv_iand X.1 X.2.1 dJ6_bitCount_0f7a4_7 ?_
  refine lv_isub X.1 X.2.1 dJ6_bitCount_0f7a4_8 ?_
  refine lv_istore_n (lv' := [(0, .int _)]) X.1 X.2.1 dJ6_bitCount_0f7a4_9 rfl hl (by decide) rfl (fun ls hl => ?_)
  refine lv_iload_n X.1 X.2.1 dJ6_bitCount_0f7a4_10 rfl (lv_at hl 0 rfl) ?_
  refine lv_ldcw X.1 X.2.1 (v := 858993459) X.2.2.2.2.1 (X.2.2.2.1 _ lq_J6_266) dJ6_bitCount_0f7a4_11 ?_
  refine lv_iand X.1 X.2.1 dJ6_bitCount_0f7a4_14 ?_
  refine lv_iload_n X.1 X.2.1 dJ6_bitCount_0f7a4_15 rfl (lv_at hl 0 rfl) ?_
  refine lv_iconst (v := 2) X.1 X.2.1 dJ6_bitCount_0f7a4_16 (by decide) ?_
  refine lv_iushr X.1 X.2.1 dJ6_bitCount_0f7a4_17 rfl ?_
  refine lv_ldcw X.1 X.2.1 (v := 858993459) X.2.2.2.2.1 (X.2.2.2.1 _ lq_J6_266) dJ6_bitCount_0f7a4_18 ?_
  refine lv_iand X.1 X.2.1 dJ6_bitCount_0f7a4_21 ?_
  refine lv_iadd X.1 X.2.1 dJ6_bitCount_0f7a4_22 ?_
  refine lv_istore_n (lv' := [(0, .int _)]) X.1 X.2.1 dJ6_bitCount_0f7a4_23 rfl hl (by decide) rfl (fun ls hl => ?_)
  refine lv_iload_n X.1 X.2.1 dJ6_bitCount_0f7a4_24 rfl (lv_at hl 0 rfl) ?_
  refine lv_iload_n X.1 X.2.1 dJ6_bitCount_0f7a4_25 rfl (lv_at hl 0 rfl) ?_
  refine lv_iconst (v := 4) X.1 X.2.1 dJ6_bitCount_0f7a4_26 (by decide) ?_
  refine lv_iushr X.1 X.2.1 dJ6_bitCount_0f7a4_27 rfl ?_
  refine lv_iadd X.1 X.2.1 dJ6_bitCount_0f7a4_28 ?_
  refine lv_ldcw X.1 X.2.1 (v := 252645135) X.2.2.2.2.1 (X.2.2.2.1 _ lq_J6_267) dJ6_bitCount_0f7a4_29 ?_
  refine lv_iand X.1 X.2.1 dJ6_bitCount_0f7a4_32 ?_
  refine lv_istore_n (lv' := [(0, .int _)]) X.1 X.2.1 dJ6_bitCount_0f7a4_33 rfl hl (by decide) rfl (fun ls hl => ?_)
  refine lv_iload_n X.1 X.2.1 dJ6_bitCount_0f7a4_34 rfl (lv_at hl 0 rfl) ?_
  refine lv_iload_n X.1 X.2.1 dJ6_bitCount_0f7a4_35 rfl (lv_at hl 0 rfl) ?_
  refine lv_bipush (v := 8) X.1 X.2.1 dJ6_bitCount_0f7a4_36 (by decide) ?_
  refine lv_iushr X.1 X.2.1 dJ6_bitCount_0f7a4_38 rfl ?_
  refine lv_iadd X.1 X.2.1 dJ6_bitCount_0f7a4_39 ?_
  refine lv_istore_n (lv' := [(0, .int _)]) X.1 X.2.1 dJ6_bitCount_0f7a4_40 rfl hl (by decide) rfl (fun ls hl => ?_)
  refine lv_iload_n X.1 X.2.1 dJ6_bitCount_0f7a4_41 rfl (lv_at hl 0 rfl) ?_
  refine lv_iload_n X.1 X.2.1 dJ6_bitCount_0f7a4_42 rfl (lv_at hl 0 rfl) ?_
  refine lv_bipush (v := 16) X.1 X.2.1 dJ6_bitCount_0f7a4_43 (by decide) ?_
  refine lv_iushr X.1 X.2.1 dJ6_bitCount_0f7a4_45 rfl ?_
  refine lv_iadd X.1 X.2.1 dJ6_bitCount_0f7a4_46 ?_
  refine lv_istore_n (lv' := [(0, .int _)]) X.1 X.2.1 dJ6_bitCount_0f7a4_47 rfl hl (by decide) rfl (fun ls hl => ?_)
  refine lv_iload_n X.1 X.2.1 dJ6_bitCount_0f7a4_48 rfl (lv_at hl 0 rfl) ?_
  refine lv_bipush (v := 63) X.1 X.2.1 dJ6_bitCount_0f7a4_49 (by decide) ?_
  refine lv_iand X.1 X.2.1 dJ6_bitCount_0f7a4_51 ?_
  have h9 := hE
  exact r_iret X I (e_i (h9).symm rfl rfl) dJ6_bitCount_0f7a4_52
def f0_doors (k : Nat) (σ : SI) : Int32 := (fbitCount (σ k 5))
set_option maxHeartbeats 4000000 in
set_option maxRecDepth 100000 in
theorem c0_doors (l : Launch) (G : GT) {k : Nat} (hk : isDay k) (σ : SI) (τ : SL) : Mc l yX0_doors cX0_doors 1 (some .int) 1 G [.ref (G.2.1 k)] σ τ (Qi G (Ei (f0_doors k σ) σ τ)) := by
  refine m_start (by decide +kernel) (Nat.le_of_ble_eq_true rfl) rfl (fun p e s m args below meth c ls X I hl => ?_)
  have hl : lv_has ls 1 [(0, .ref (G.2.1 k))] := hl
  obtain ⟨E, hE⟩ : ∃ E, E = (f0_doors k σ) := ⟨_, rfl⟩
  rw [← hE]
  refine lv_aload_n X.1 X.2.1 dX0_doors_0 rfl (lv_at hl 0 rfl) ?_
  refine g0_5 X I (k := k) (Nat.lt_of_le_of_lt (Nat.add_le_add_left (show 0 ≤ 1 by decide) k) hk.1) hk.2.1 lf_X0_54 dX0_doors_1 ?_
  refine r_ei I (r_runS X I pk_J6_bitCount_0f7a4 (cbitCount l G _ _ _) lm_X0_75 rfl hl.1 rfl (Nat.le_of_ble_eq_true rfl) dX0_doors_4 ⟨Nat.le_of_ble_eq_true rfl, Nat.le_of_ble_eq_true rfl⟩ ⟨Nat.le_refl 0, Nat.le_refl 0⟩) (fun H locs I => ?_)
  have h9 := hE
  exact r_iret X I (e_i (h9).symm rfl rfl) dX0_doors_7
def f0_logLength (k : Nat) (σ : SI) : Int32 := (if (σ k 8) < (60 : Int32) then (σ k 8) else (60 : Int32))
set_option maxHeartbeats 4000000 in
set_option maxRecDepth 100000 in
theorem c0_logLength (l : Launch) (G : GT) {k : Nat} (hk : isDay k) (σ : SI) (τ : SL) : Mc l yX0_logLength cX0_logLength 1 (some .int) 1 G [.ref (G.2.1 k)] σ τ (Qi G (Ei (f0_logLength k σ) σ τ)) := by
  refine m_start (by decide +kernel) (Nat.le_of_ble_eq_true rfl) rfl (fun p e s m args below meth c ls X I hl => ?_)
  have hl : lv_has ls 1 [(0, .ref (G.2.1 k))] := hl
  obtain ⟨E, hE⟩ : ∃ E, E = (f0_logLength k σ) := ⟨_, rfl⟩
  rw [← hE]
  refine lv_bipush (v := 60) X.1 X.2.1 dX0_logLength_0 (by decide) ?_
  refine lv_aload_n X.1 X.2.1 dX0_logLength_2 rfl (lv_at hl 0 rfl) ?_
  refine g0_8 X I (k := k) (Nat.lt_of_le_of_lt (Nat.add_le_add_left (show 0 ≤ 1 by decide) k) hk.1) hk.2.1 lf_X0_42 dX0_logLength_3 ?_
  refine r_mmin X hl.1 lm_X0_80 ls_J9_min_7cf53 ln_J9 lc_J9_min_7cf53 (Nat.le_of_ble_eq_true rfl) (Nat.le_of_ble_eq_true rfl) (Nat.le_refl 0) (Nat.le_refl 0) dX0_logLength_6 ?_
  have h9 := hE
  exact r_iret X I (e_i (h9).symm rfl rfl) dX0_logLength_9
def f1_clear (k : Nat) (σ : SI) : SI := let s0 := sp σ k 1 (0 : Int32); s0
theorem w_f1_clear {k : Nat} (σ : SI) (a : Nat) (h0 : a ≠ k) : (f1_clear k σ) a = σ a := by
  unfold f1_clear
  (repeat' split) <;> (first | rfl | (simp only [sp_n, su_n, ne_eq, not_false_eq_true, h0]; done) | (simp [sp_n, su_n, ne_eq, not_false_eq_true, h0]; done))
set_option maxHeartbeats 4000000 in
set_option maxRecDepth 100000 in
theorem c1_clear (l : Launch) (G : GT) {k : Nat} (hk : isLaw k) (σ : SI) (τ : SL) : Mc l yX1_clear cX1_clear 1 none 0 G [.ref (G.2.1 k)] σ τ (Qv G (Ev (f1_clear k σ) τ)) := by
  refine m_start (by decide +kernel) (Nat.le_of_ble_eq_true rfl) rfl (fun p e s m args below meth c ls X I hl => ?_)
  have hl : lv_has ls 1 [(0, .ref (G.2.1 k))] := hl
  obtain ⟨E, hE⟩ : ∃ E, E = (f1_clear k σ) := ⟨_, rfl⟩
  rw [← hE]
  refine lv_aload_n X.1 X.2.1 dX1_clear_0 rfl (lv_at hl 0 rfl) ?_
  refine lv_iconst (v := 0) X.1 X.2.1 dX1_clear_1 (by decide) ?_
  refine p1_1 X I (k := k) (Nat.lt_of_le_of_lt (Nat.add_le_add_left (show 0 ≤ 1 by decide) k) hk.1) hk.2.1 lf_X1_15 dX1_clear_2 (fun H locs I => ?_)
  have h9 := hE
  exact r_vret X I (e_v (h9).symm rfl) dX1_clear_5
def f1_copy (k : Nat) (k1 : Nat) (σ : SI) : SI := let s0 := su σ (k + 1) (va_cpy (σ (k1 + 1)) (σ (k + 1)) 0 0 240); let s1 := sp s0 k 1 (s0 k1 1); s1
theorem w_f1_copy {k : Nat} {k1 : Nat} (σ : SI) (a : Nat) (h0 : a ≠ (k + 1)) (h1 : a ≠ k) : (f1_copy k k1 σ) a = σ a := by
  unfold f1_copy
  (repeat' split) <;> (first | rfl | (simp only [sp_n, su_n, ne_eq, not_false_eq_true, h0, h1]; done) | (simp [sp_n, su_n, ne_eq, not_false_eq_true, h0, h1]; done))
set_option maxHeartbeats 4000000 in
set_option maxRecDepth 100000 in
theorem c1_copy (l : Launch) (G : GT) {k : Nat} (hk : isLaw k) {k1 : Nat} (hk1 : isLaw k1) (σ : SI) (τ : SL) : Mc l yX1_copy cX1_copy 2 none 2 G [.ref (G.2.1 k), .ref (G.2.1 k1)] σ τ (Qv G (Ev (f1_copy k k1 σ) τ)) := by
  refine m_start (by decide +kernel) (Nat.le_of_ble_eq_true rfl) rfl (fun p e s m args below meth c ls X I hl => ?_)
  have hl : lv_has ls 2 [(0, .ref (G.2.1 k)), (1, .ref (G.2.1 k1))] := hl
  obtain ⟨E, hE⟩ : ∃ E, E = (f1_copy k k1 σ) := ⟨_, rfl⟩
  rw [← hE]
  refine lv_aload_n X.1 X.2.1 dX1_copy_0 rfl (lv_at hl 1 rfl) ?_
  refine g1_0 X I (k := k1) (Nat.lt_of_le_of_lt (Nat.add_le_add_left (show 0 ≤ 1 by decide) k1) hk1.1) hk1.2.1 lf_X1_9 dX1_copy_1 ?_
  refine lv_iconst (v := 0) X.1 X.2.1 dX1_copy_4 (by decide) ?_
  refine lv_aload_n X.1 X.2.1 dX1_copy_5 rfl (lv_at hl 0 rfl) ?_
  refine g1_0 X I (k := k) (Nat.lt_of_le_of_lt (Nat.add_le_add_left (show 0 ≤ 1 by decide) k) hk.1) hk.2.1 lf_X1_9 dX1_copy_6 ?_
  refine lv_iconst (v := 0) X.1 X.2.1 dX1_copy_9 (by decide) ?_
  refine lv_sipush (v := 240) X.1 X.2.1 dX1_copy_10 (by decide) ?_
  refine r_copy X I hl.1 (k0 := (k1 + 1)) (n0 := 240) (k1 := (k + 1)) (n1 := 240) (Nat.lt_of_le_of_lt (Nat.add_le_add_left (show 1 ≤ 1 by decide) k1) hk1.1) hk1.2.2 (Nat.lt_of_le_of_lt (Nat.add_le_add_left (show 1 ≤ 1 by decide) k) hk.1) hk.2.2 (N := 240) (n := 240) (by decide) (by decide) (by decide) rfl (Nat.le_of_ble_eq_true rfl) (Nat.le_of_ble_eq_true rfl) lm_X1_19 dX1_copy_13 (Nat.le_of_ble_eq_true rfl) (Nat.le_of_ble_eq_true rfl) (fun H locs I => ?_)
  refine lv_aload_n X.1 X.2.1 dX1_copy_16 rfl (lv_at hl 0 rfl) ?_
  refine lv_aload_n X.1 X.2.1 dX1_copy_17 rfl (lv_at hl 1 rfl) ?_
  refine g1_1 X I (k := k1) (Nat.lt_of_le_of_lt (Nat.add_le_add_left (show 0 ≤ 1 by decide) k1) hk1.1) hk1.2.1 lf_X1_15 dX1_copy_18 ?_
  refine p1_1 X I (k := k) (Nat.lt_of_le_of_lt (Nat.add_le_add_left (show 0 ≤ 1 by decide) k) hk.1) hk.2.1 lf_X1_15 dX1_copy_21 (fun H locs I => ?_)
  have h9 := hE
  exact r_vret X I (e_v (h9).symm rfl) dX1_copy_24
def f1_add (k : Nat) (σ : SI) (x1 : Int32) : SI := if (σ k 1) < (0 : Int32) then σ else (if (240 : Int32) ≤ (σ k 1) then σ else (let s0 := sp σ (k + 1) (Int32.toNatClampNeg (σ k 1)) x1; let s1 := sp s0 k 1 ((s0 k 1) + (1 : Int32)); s1))
theorem w_f1_add {k : Nat} (σ : SI) (x1 : Int32) (a : Nat) (h0 : a ≠ (k + 1)) (h1 : a ≠ k) : (f1_add k σ x1) a = σ a := by
  unfold f1_add
  (repeat' split) <;> (first | rfl | (simp only [sp_n, su_n, ne_eq, not_false_eq_true, h0, h1]; done) | (simp [sp_n, su_n, ne_eq, not_false_eq_true, h0, h1]; done))
set_option maxHeartbeats 4000000 in
set_option maxRecDepth 100000 in
theorem c1_add (l : Launch) (G : GT) {k : Nat} (hk : isLaw k) (σ : SI) (τ : SL) (x1 : Int32) : Mc l yX1_add cX1_add 2 none 0 G [.ref (G.2.1 k), .int x1] σ τ (Qv G (Ev (f1_add k σ x1) τ)) := by
  refine m_start (by decide +kernel) (Nat.le_of_ble_eq_true rfl) rfl (fun p e s m args below meth c ls X I hl => ?_)
  have hl : lv_has ls 2 [(0, .ref (G.2.1 k)), (1, .int x1)] := hl
  obtain ⟨E, hE⟩ : ∃ E, E = (f1_add k σ x1) := ⟨_, rfl⟩
  rw [← hE]
  refine lv_aload_n X.1 X.2.1 dX1_add_0 rfl (lv_at hl 0 rfl) ?_
  refine g1_1 X I (k := k) (Nat.lt_of_le_of_lt (Nat.add_le_add_left (show 0 ≤ 1 by decide) k) hk.1) hk.2.1 lf_X1_15 dX1_add_1 ?_
  refine lv_if_lt (tgt := 39) X.1 X.2.1 dX1_add_4 (by decide) (fun c_1 => ?_) (fun c_1 => ?_)
  · skip
    have h9 := hE.trans ((if_pos c_1).trans rfl)
    exact r_vret X I (e_v (h9).symm rfl) dX1_add_39
  · skip
    refine lv_aload_n X.1 X.2.1 dX1_add_7 rfl (lv_at hl 0 rfl) ?_
    refine g1_1 X I (k := k) (Nat.lt_of_le_of_lt (Nat.add_le_add_left (show 0 ≤ 1 by decide) k) hk.1) hk.2.1 lf_X1_15 dX1_add_8 ?_
    refine lv_aload_n X.1 X.2.1 dX1_add_11 rfl (lv_at hl 0 rfl) ?_
    refine g1_0 X I (k := k) (Nat.lt_of_le_of_lt (Nat.add_le_add_left (show 0 ≤ 1 by decide) k) hk.1) hk.2.1 lf_X1_9 dX1_add_12 ?_
    refine r_alen X I (k := (k + 1)) (n := 240) (Nat.lt_of_le_of_lt (Nat.add_le_add_left (show 1 ≤ 1 by decide) k) hk.1) hk.2.2 (v := 240) rfl dX1_add_15 ?_
    refine lv_icmp_ge (tgt := 39) X.1 X.2.1 dX1_add_16 (by decide) (fun c_2 => ?_) (fun c_2 => ?_)
    · skip
      have h9 := hE.trans ((if_neg c_1).trans ((if_pos c_2).trans rfl))
      exact r_vret X I (e_v (h9).symm rfl) dX1_add_39
    · skip
      refine lv_aload_n X.1 X.2.1 dX1_add_19 rfl (lv_at hl 0 rfl) ?_
      refine g1_0 X I (k := k) (Nat.lt_of_le_of_lt (Nat.add_le_add_left (show 0 ≤ 1 by decide) k) hk.1) hk.2.1 lf_X1_9 dX1_add_20 ?_
      refine lv_aload_n X.1 X.2.1 dX1_add_23 rfl (lv_at hl 0 rfl) ?_
      refine g1_1 X I (k := k) (Nat.lt_of_le_of_lt (Nat.add_le_add_left (show 0 ≤ 1 by decide) k) hk.1) hk.2.1 lf_X1_15 dX1_add_24 ?_
      refine lv_iload_n X.1 X.2.1 dX1_add_27 rfl (lv_at hl 1 rfl) ?_
      refine r_ast X I (k := (k + 1)) (n := 240) (Nat.lt_of_le_of_lt (Nat.add_le_add_left (show 1 ≤ 1 by decide) k) hk.1) hk.2.2 (vp_g (n := 240) (by decide) c_1 c_2) dX1_add_28 (fun H locs I => ?_)
      refine lv_aload_n X.1 X.2.1 dX1_add_29 rfl (lv_at hl 0 rfl) ?_
      refine lv_dup X.1 X.2.1 dX1_add_30 rfl ?_
      refine g1_1 X I (k := k) (Nat.lt_of_le_of_lt (Nat.add_le_add_left (show 0 ≤ 1 by decide) k) hk.1) hk.2.1 lf_X1_15 dX1_add_31 ?_
      refine lv_iconst (v := 1) X.1 X.2.1 dX1_add_34 (by decide) ?_
      refine lv_iadd X.1 X.2.1 dX1_add_35 ?_
      refine p1_1 X I (k := k) (Nat.lt_of_le_of_lt (Nat.add_le_add_left (show 0 ≤ 1 by decide) k) hk.1) hk.2.1 lf_X1_15 dX1_add_36 (fun H locs I => ?_)
      have h9 := hE.trans ((if_neg c_1).trans ((if_neg c_2).trans rfl))
      exact r_vret X I (e_v (h9).symm rfl) dX1_add_39
def f1_size (k : Nat) (σ : SI) : Int32 := (σ k 1)
set_option maxHeartbeats 4000000 in
set_option maxRecDepth 100000 in
theorem c1_size (l : Launch) (G : GT) {k : Nat} (hk : isLaw k) (σ : SI) (τ : SL) : Mc l yX1_size cX1_size 1 (some .int) 0 G [.ref (G.2.1 k)] σ τ (Qi G (Ei (f1_size k σ) σ τ)) := by
  refine m_start (by decide +kernel) (Nat.le_of_ble_eq_true rfl) rfl (fun p e s m args below meth c ls X I hl => ?_)
  have hl : lv_has ls 1 [(0, .ref (G.2.1 k))] := hl
  obtain ⟨E, hE⟩ : ∃ E, E = (f1_size k σ) := ⟨_, rfl⟩
  rw [← hE]
  refine lv_aload_n X.1 X.2.1 dX1_size_0 rfl (lv_at hl 0 rfl) ?_
  refine g1_1 X I (k := k) (Nat.lt_of_le_of_lt (Nat.add_le_add_left (show 0 ≤ 1 by decide) k) hk.1) hk.2.1 lf_X1_15 dX1_size_1 ?_
  have h9 := hE
  exact r_iret X I (e_i (h9).symm rfl rfl) dX1_size_4
def f1_signAt (k : Nat) (σ : SI) (x1 : Int32) : Int32 := (f11_cell (k + 1) 240 σ x1)
set_option maxHeartbeats 4000000 in
set_option maxRecDepth 100000 in
theorem c1_signAt (l : Launch) (G : GT) {k : Nat} (hk : isLaw k) (σ : SI) (τ : SL) (x1 : Int32) : Mc l yX1_signAt cX1_signAt 2 (some .int) 1 G [.ref (G.2.1 k), .int x1] σ τ (Qi G (Ei (f1_signAt k σ x1) σ τ)) := by
  refine m_start (by decide +kernel) (Nat.le_of_ble_eq_true rfl) rfl (fun p e s m args below meth c ls X I hl => ?_)
  have hl : lv_has ls 2 [(0, .ref (G.2.1 k)), (1, .int x1)] := hl
  obtain ⟨E, hE⟩ : ∃ E, E = (f1_signAt k σ x1) := ⟨_, rfl⟩
  rw [← hE]
  refine lv_aload_n X.1 X.2.1 dX1_signAt_0 rfl (lv_at hl 0 rfl) ?_
  refine g1_0 X I (k := k) (Nat.lt_of_le_of_lt (Nat.add_le_add_left (show 0 ≤ 1 by decide) k) hk.1) hk.2.1 lf_X1_9 dX1_signAt_1 ?_
  refine lv_iload_n X.1 X.2.1 dX1_signAt_4 rfl (lv_at hl 1 rfl) ?_
  refine r_ei I (r_runN X I pk_X11_cell (c11_cell l G (k := (k + 1)) (n := 240) (Nat.lt_of_le_of_lt (Nat.add_le_add_left (show 1 ≤ 1 by decide) k) hk.1) hk.2.2 (by decide) _ _ _) (by decide +kernel) rfl hl.1 rfl (Nat.le_of_ble_eq_true rfl) dX1_signAt_5 ⟨Nat.le_of_ble_eq_true rfl, Nat.le_of_ble_eq_true rfl⟩ ⟨Nat.le_refl 0, Nat.le_refl 0⟩) (fun H locs I => ?_)
  have h9 := hE
  exact r_iret X I (e_i (h9).symm rfl rfl) dX1_signAt_8
def f2_number (σ : SI) : Int32 := (σ 13 2)
set_option maxHeartbeats 4000000 in
set_option maxRecDepth 100000 in
theorem c2_number (l : Launch) (G : GT) (σ : SI) (τ : SL) : Mc l yX2_number cX2_number 1 (some .int) 0 G [.ref (G.2.1 13)] σ τ (Qi G (Ei (f2_number σ) σ τ)) := by
  refine m_start (by decide +kernel) (Nat.le_of_ble_eq_true rfl) rfl (fun p e s m args below meth c ls X I hl => ?_)
  have hl : lv_has ls 1 [(0, .ref (G.2.1 13))] := hl
  obtain ⟨E, hE⟩ : ∃ E, E = (f2_number σ) := ⟨_, rfl⟩
  rw [← hE]
  refine lv_aload_n X.1 X.2.1 dX2_number_0 rfl (lv_at hl 0 rfl) ?_
  refine g2_2 X I (k := 13) (by decide) rfl lf_X2_26 dX2_number_1 ?_
  have h9 := hE
  exact r_iret X I (e_i (h9).symm rfl rfl) dX2_number_4
def f2_holding (σ : SI) : Int32 := (σ 13 3)
set_option maxHeartbeats 4000000 in
set_option maxRecDepth 100000 in
theorem c2_holding (l : Launch) (G : GT) (σ : SI) (τ : SL) : Mc l yX2_holding cX2_holding 1 (some .int) 0 G [.ref (G.2.1 13)] σ τ (Qi G (Ei (f2_holding σ) σ τ)) := by
  refine m_start (by decide +kernel) (Nat.le_of_ble_eq_true rfl) rfl (fun p e s m args below meth c ls X I hl => ?_)
  have hl : lv_has ls 1 [(0, .ref (G.2.1 13))] := hl
  obtain ⟨E, hE⟩ : ∃ E, E = (f2_holding σ) := ⟨_, rfl⟩
  rw [← hE]
  refine lv_aload_n X.1 X.2.1 dX2_holding_0 rfl (lv_at hl 0 rfl) ?_
  refine g2_3 X I (k := 13) (by decide) rfl lf_X2_22 dX2_holding_1 ?_
  have h9 := hE
  exact r_iret X I (e_i (h9).symm rfl rfl) dX2_holding_4
def f2_lawAt (x1 : Int32) : Option Nat := if x1 < (0 : Int32) then none else (if (4 : Int32) ≤ x1 then none else (some (16 + 2 * (Int32.toNatClampNeg x1))))
set_option maxHeartbeats 4000000 in
set_option maxRecDepth 100000 in
theorem c2_lawAt (l : Launch) (G : GT) (σ : SI) (τ : SL) (x1 : Int32) : Mc l yX2_lawAt cX2_lawAt 2 (some (.object "SaintCarried$Law")) 0 G [.ref (G.2.1 13), .int x1] σ τ (Qq G (Eq1 ((f2_lawAt x1).map G.2.1) σ τ)) := by
  refine m_start (by decide +kernel) (Nat.le_of_ble_eq_true rfl) rfl (fun p e s m args below meth c ls X I hl => ?_)
  have hl : lv_has ls 2 [(0, .ref (G.2.1 13)), (1, .int x1)] := hl
  obtain ⟨E, hE⟩ : ∃ E, E = (f2_lawAt x1) := ⟨_, rfl⟩
  rw [← hE]
  refine lv_iload_n X.1 X.2.1 dX2_lawAt_0 rfl (lv_at hl 1 rfl) ?_
  refine lv_if_lt (tgt := 22) X.1 X.2.1 dX2_lawAt_1 (by decide) (fun c_1 => ?_) (fun c_1 => ?_)
  · skip
    refine lv_null X.1 X.2.1 dX2_lawAt_22 ?_
    have h9 := hE.trans ((if_pos c_1).trans rfl)
    exact r_qret (v := none) X I (Or.inl ⟨_, rfl⟩) (e_q (congrArg (Option.map G.2.1) (h9)).symm rfl rfl) dX2_lawAt_23
  · skip
    refine lv_iload_n X.1 X.2.1 dX2_lawAt_4 rfl (lv_at hl 1 rfl) ?_
    refine lv_aload_n X.1 X.2.1 dX2_lawAt_5 rfl (lv_at hl 0 rfl) ?_
    refine g2_0 X I (k := 13) (by decide) rfl lf_X2_11 dX2_lawAt_6 ?_
    refine r_alen21 X I (k := 14) (by decide) rfl dX2_lawAt_9 ?_
    refine lv_icmp_ge (tgt := 22) X.1 X.2.1 dX2_lawAt_10 (by decide) (fun c_2 => ?_) (fun c_2 => ?_)
    · skip
      refine lv_null X.1 X.2.1 dX2_lawAt_22 ?_
      have h9 := hE.trans ((if_neg c_1).trans ((if_pos c_2).trans rfl))
      exact r_qret (v := none) X I (Or.inl ⟨_, rfl⟩) (e_q (congrArg (Option.map G.2.1) (h9)).symm rfl rfl) dX2_lawAt_23
    · skip
      refine lv_aload_n X.1 X.2.1 dX2_lawAt_13 rfl (lv_at hl 0 rfl) ?_
      refine g2_0 X I (k := 13) (by decide) rfl lf_X2_11 dX2_lawAt_14 ?_
      refine lv_iload_n X.1 X.2.1 dX2_lawAt_17 rfl (lv_at hl 1 rfl) ?_
      refine r_lawld X I (k := 14) (by decide) rfl (vp_g (n := 4) (by decide) c_1 c_2) dX2_lawAt_18 ?_
      refine lv_goto (tgt := 23) X.1 X.2.1 dX2_lawAt_19 (by decide) ?_
      have h9 := hE.trans ((if_neg c_1).trans ((if_neg c_2).trans rfl))
      exact r_qret (v := some _) X I (Or.inl ⟨_, rfl⟩) (e_q (congrArg (Option.map G.2.1) (h9)).symm rfl rfl) dX2_lawAt_23
theorem law_fact {x1 : Int32} {k : Nat} (h : f2_lawAt x1 = some k) : isLaw k := by
  unfold f2_lawAt at h
  split at h
  · cases h
  · split at h
    · cases h
    · next h1 h2 =>
      obtain ⟨j, hj, rfl⟩ := nI_of h1
      have h3 : ¬ nI 4 ≤ nI j := h2
      rw [nI_leI (by decide) hj] at h3
      rw [nI_clamp hj] at h
      have h4 : 16 + 2 * j = k := Option.some.inj h
      subst h4
      exact law_all j (by omega)
def f2_add (k1 : Nat) (σ : SI) : Int32 × SI := oq (f2_lawAt (σ 13 2)) (((-1 : Int32), σ)) (fun o_1k => let s0 := (f1_copy o_1k k1 σ); let s1 := sp s0 13 2 ((s0 13 2) + (1 : Int32)); ((((s0 13 2) + (1 : Int32)) - (1 : Int32)), s1))
theorem w_f2_add {k1 : Nat} (σ : SI) (a : Nat) (h0 : a ≠ 13) (h1 : a ≠ (o_1k + 1)) (h2 : a ≠ o_1k) : (f2_add k1 σ).2 a = σ a := by
  unfold f2_add
  (repeat' split) <;> (first | rfl | (simp only [sp_n, su_n, ne_eq, not_false_eq_true, h0, h1, h2, w_f1_copy]; done) | (simp [sp_n, su_n, ne_eq, not_false_eq_true, h0, h1, h2, w_f1_copy]; done))
set_option maxHeartbeats 4000000 in
set_option maxRecDepth 100000 in
theorem c2_add (l : Launch) (G : GT) {k1 : Nat} (hk1 : isLaw k1) (σ : SI) (τ : SL) : Mc l yX2_add cX2_add 3 (some .int) 3 G [.ref (G.2.1 13), .ref (G.2.1 k1)] σ τ (Qi G (Ei (f2_add k1 σ).1 (f2_add k1 σ).2 τ)) := by
  refine m_start (by decide +kernel) (Nat.le_of_ble_eq_true rfl) rfl (fun p e s m args below meth c ls X I hl => ?_)
  have hl : lv_has ls 3 [(0, .ref (G.2.1 13)), (1, .ref (G.2.1 k1))] := hl
  obtain ⟨E, hE⟩ : ∃ E, E = (f2_add k1 σ) := ⟨_, rfl⟩
  rw [← hE]
  refine lv_aload_n X.1 X.2.1 dX2_add_0 rfl (lv_at hl 0 rfl) ?_
  refine lv_aload_n X.1 X.2.1 dX2_add_1 rfl (lv_at hl 0 rfl) ?_
  refine g2_2 X I (k := 13) (by decide) rfl lf_X2_26 dX2_add_2 ?_
  refine r_eqs I (r_runV X I pk_X2_lawAt (c2_lawAt l G _ _ _) lm_X2_29 (by decide) (cl_2 rfl) rfl rfl rfl hl.1 rfl (Nat.le_of_ble_eq_true rfl) dX2_add_5 ⟨Nat.le_of_ble_eq_true rfl, Nat.le_of_ble_eq_true rfl⟩ ⟨Nat.le_refl 0, Nat.le_refl 0⟩) (fun o_1 H locs I => ?_) (fun o_1k ho_1 H locs I => ?_)
  · skip
    refine lv_astore_nN (lv' := [(2, .null), (0, .ref _), (1, .ref _)]) X.1 X.2.1 dX2_add_8 rfl hl (by decide) rfl (fun ls hl => ?_)
    refine lv_aload_nN X.1 X.2.1 dX2_add_9 rfl (lv_at hl 0 rfl) ?_
    refine lv_ifnonnullN X.1 X.2.1 dX2_add_10 ?_
    refine lv_iconst (v := (-1)) X.1 X.2.1 dX2_add_13 (by decide) ?_
    have h9 := hE.trans ((oq_none o_1).trans rfl)
    exact r_iret X I (e_i (congrArg Prod.fst h9).symm (congrArg Prod.snd h9).symm rfl) dX2_add_14
  · skip
    have hko_1 := law_fact ho_1
    refine lv_astore_n (lv' := [(2, .ref _), (0, .ref _), (1, .ref _)]) X.1 X.2.1 dX2_add_8 rfl hl (by decide) rfl (fun ls hl => ?_)
    refine lv_aload_n X.1 X.2.1 dX2_add_9 rfl (lv_at hl 0 rfl) ?_
    refine lv_ifnonnull (tgt := 15) X.1 X.2.1 dX2_add_10 (by decide) ?_
    refine lv_aload_n X.1 X.2.1 dX2_add_15 rfl (lv_at hl 0 rfl) ?_
    refine lv_aload_n X.1 X.2.1 dX2_add_16 rfl (lv_at hl 2 rfl) ?_
    refine r_ev I (r_runV X I pk_X1_copy (c1_copy l G (k := o_1k) hko_1 (k1 := k1) hk1 _ _) lm_X2_33 (Nat.lt_of_le_of_lt (Nat.add_le_add_left (show 0 ≤ 1 by decide) o_1k) hko_1.1) (cl_1 hko_1.2.1) rfl rfl rfl hl.1 rfl (Nat.le_of_ble_eq_true rfl) dX2_add_17 ⟨Nat.le_of_ble_eq_true rfl, Nat.le_of_ble_eq_true rfl⟩ ⟨Nat.le_refl 0, Nat.le_refl 0⟩) (fun H locs I => ?_)
    refine lv_aload_n X.1 X.2.1 dX2_add_20 rfl (lv_at hl 1 rfl) ?_
    refine lv_dup X.1 X.2.1 dX2_add_21 rfl ?_
    refine g2_2 X I (k := 13) (by decide) rfl lf_X2_26 dX2_add_22 ?_
    refine lv_iconst (v := 1) X.1 X.2.1 dX2_add_25 (by decide) ?_
    refine lv_iadd X.1 X.2.1 dX2_add_26 ?_
    refine p2_2 X I (k := 13) (by decide) rfl lf_X2_26 dX2_add_27 (fun H locs I => ?_)
    refine lv_aload_n X.1 X.2.1 dX2_add_30 rfl (lv_at hl 1 rfl) ?_
    refine g2_2 X I (k := 13) (by decide) rfl lf_X2_26 dX2_add_31 ?_
    refine lv_iconst (v := 1) X.1 X.2.1 dX2_add_34 (by decide) ?_
    refine lv_isub X.1 X.2.1 dX2_add_35 ?_
    have h9 := hE.trans ((oq_some ho_1).trans rfl)
    exact r_iret X I (e_i (congrArg Prod.fst h9).symm (congrArg Prod.snd h9).symm rfl) dX2_add_36
def f2_choose (σ : SI) (x1 : Int32) : Bool × SI := if x1 < (-1 : Int32) then (false, σ) else (if x1 < (σ 13 2) then (let s0 := sp σ 13 3 x1; (true, s0)) else (false, σ))
theorem w_f2_choose (σ : SI) (x1 : Int32) (a : Nat) (h0 : a ≠ 13) : (f2_choose σ x1).2 a = σ a := by
  unfold f2_choose
  (repeat' split) <;> (first | rfl | (simp only [sp_n, su_n, ne_eq, not_false_eq_true, h0]; done) | (simp [sp_n, su_n, ne_eq, not_false_eq_true, h0]; done))
set_option maxHeartbeats 4000000 in
set_option maxRecDepth 100000 in
theorem c2_choose (l : Launch) (G : GT) (σ : SI) (τ : SL) (x1 : Int32) : Mc l yX2_choose cX2_choose 2 (some .boolean) 0 G [.ref (G.2.1 13), .int x1] σ τ (Qi G (Ei (b2i (f2_choose σ x1).1) (f2_choose σ x1).2 τ)) := by
  refine m_start (by decide +kernel) (Nat.le_of_ble_eq_true rfl) rfl (fun p e s m args below meth c ls X I hl => ?_)
  have hl : lv_has ls 2 [(0, .ref (G.2.1 13)), (1, .int x1)] := hl
  obtain ⟨E, hE⟩ : ∃ E, E = (f2_choose σ x1) := ⟨_, rfl⟩
  rw [← hE]
  refine lv_iload_n X.1 X.2.1 dX2_choose_0 rfl (lv_at hl 1 rfl) ?_
  refine lv_iconst (v := (-1)) X.1 X.2.1 dX2_choose_1 (by decide) ?_
  refine lv_icmp_lt (tgt := 13) X.1 X.2.1 dX2_choose_2 (by decide) (fun c_1 => ?_) (fun c_1 => ?_)
  · skip
    refine lv_iconst (v := 0) X.1 X.2.1 dX2_choose_13 (by decide) ?_
    have h9 := hE.trans ((if_pos c_1).trans rfl)
    exact r_zret X I rfl (e_i (congrArg b2i (congrArg Prod.fst h9)).symm (congrArg Prod.snd h9).symm rfl) dX2_choose_14
  · skip
    refine lv_iload_n X.1 X.2.1 dX2_choose_5 rfl (lv_at hl 1 rfl) ?_
    refine lv_aload_n X.1 X.2.1 dX2_choose_6 rfl (lv_at hl 0 rfl) ?_
    refine g2_2 X I (k := 13) (by decide) rfl lf_X2_26 dX2_choose_7 ?_
    refine lv_icmp_lt (tgt := 15) X.1 X.2.1 dX2_choose_10 (by decide) (fun c_2 => ?_) (fun c_2 => ?_)
    · skip
      refine lv_aload_n X.1 X.2.1 dX2_choose_15 rfl (lv_at hl 0 rfl) ?_
      refine lv_iload_n X.1 X.2.1 dX2_choose_16 rfl (lv_at hl 1 rfl) ?_
      refine p2_3 X I (k := 13) (by decide) rfl lf_X2_22 dX2_choose_17 (fun H locs I => ?_)
      refine lv_iconst (v := 1) X.1 X.2.1 dX2_choose_20 (by decide) ?_
      have h9 := hE.trans ((if_neg c_1).trans ((if_pos c_2).trans rfl))
      exact r_zret X I rfl (e_i (congrArg b2i (congrArg Prod.fst h9)).symm (congrArg Prod.snd h9).symm rfl) dX2_choose_21
    · skip
      refine lv_iconst (v := 0) X.1 X.2.1 dX2_choose_13 (by decide) ?_
      have h9 := hE.trans ((if_neg c_1).trans ((if_neg c_2).trans rfl))
      exact r_zret X I rfl (e_i (congrArg b2i (congrArg Prod.fst h9)).symm (congrArg Prod.snd h9).symm rfl) dX2_choose_14
def f11_within (x0 : Int64) (x2 : Int32) (x3 : Int32) : Int32 := if (0 : Int32) ≤ (lg_cmp x0 (Int32.toInt64 x2)) then (if (lg_cmp x0 (Int32.toInt64 x3)) ≤ (0 : Int32) then (Int64.toInt32 x0) else x3) else x2
set_option maxHeartbeats 4000000 in
set_option maxRecDepth 100000 in
theorem c11_within (l : Launch) (G : GT) (σ : SI) (τ : SL) (x0 : Int64) (x2 : Int32) (x3 : Int32) : Mc l yX11_within cX11_within 4 (some .int) 0 G [.long x0, .int x2, .int x3] σ τ (Qi G (Ei (f11_within x0 x2 x3) σ τ)) := by
  refine m_start (by decide +kernel) (Nat.le_of_ble_eq_true rfl) rfl (fun p e s m args below meth c ls X I hl => ?_)
  have hl : lv_has ls 4 [(0, .long x0), (2, .int x2), (3, .int x3)] := hl
  obtain ⟨E, hE⟩ : ∃ E, E = (f11_within x0 x2 x3) := ⟨_, rfl⟩
  rw [← hE]
  refine lv_lload_n X.1 X.2.1 dX11_within_0 rfl (lv_at hl 0 rfl) ?_
  refine lv_iload_n X.1 X.2.1 dX11_within_1 rfl (lv_at hl 1 rfl) ?_
  refine lv_i2l X.1 X.2.1 dX11_within_2 rfl ?_
  refine W.lcmp X.1 X.2.1 dX11_within_3 ?_
  refine lv_if_ge (tgt := 11) X.1 X.2.1 dX11_within_4 (by decide) (fun c_1 => ?_) (fun c_1 => ?_)
  · skip
    refine lv_lload_n X.1 X.2.1 dX11_within_11 rfl (lv_at hl 0 rfl) ?_
    refine lv_iload_n X.1 X.2.1 dX11_within_12 rfl (lv_at hl 2 rfl) ?_
    refine lv_i2l X.1 X.2.1 dX11_within_13 rfl ?_
    refine W.lcmp X.1 X.2.1 dX11_within_14 ?_
    refine lv_if_le (tgt := 22) X.1 X.2.1 dX11_within_15 (by decide) (fun c_2 => ?_) (fun c_2 => ?_)
    · skip
      refine lv_lload_n X.1 X.2.1 dX11_within_22 rfl (lv_at hl 0 rfl) ?_
      refine lv_l2i X.1 X.2.1 dX11_within_23 rfl ?_
      have h9 := hE.trans ((if_pos c_1).trans ((if_pos c_2).trans rfl))
      exact r_iret X I (e_i (h9).symm rfl rfl) dX11_within_24
    · skip
      refine lv_iload_n X.1 X.2.1 dX11_within_18 rfl (lv_at hl 2 rfl) ?_
      refine lv_goto (tgt := 24) X.1 X.2.1 dX11_within_19 (by decide) ?_
      have h9 := hE.trans ((if_pos c_1).trans ((if_neg c_2).trans rfl))
      exact r_iret X I (e_i (h9).symm rfl rfl) dX11_within_24
  · skip
    refine lv_iload_n X.1 X.2.1 dX11_within_7 rfl (lv_at hl 1 rfl) ?_
    refine lv_goto (tgt := 24) X.1 X.2.1 dX11_within_8 (by decide) ?_
    have h9 := hE.trans ((if_neg c_1).trans rfl)
    exact r_iret X I (e_i (h9).symm rfl rfl) dX11_within_24
def f2_pop (σ : SI) : Int32 × SI := if (σ 13 4) ≤ (0 : Int32) then ((0 : Int32), σ) else (if (σ 13 4) ≤ (32 : Int32) then (let s0 := sp σ 13 4 ((σ 13 4) - (1 : Int32)); ((σ 15 (Int32.toNatClampNeg ((σ 13 4) - (1 : Int32)))), s0)) else ((0 : Int32), σ))
theorem w_f2_pop (σ : SI) (a : Nat) (h0 : a ≠ 13) : (f2_pop σ).2 a = σ a := by
  unfold f2_pop
  (repeat' split) <;> (first | rfl | (simp only [sp_n, su_n, ne_eq, not_false_eq_true, h0]; done) | (simp [sp_n, su_n, ne_eq, not_false_eq_true, h0]; done))
set_option maxHeartbeats 4000000 in
set_option maxRecDepth 100000 in
theorem c2_pop (l : Launch) (G : GT) (σ : SI) (τ : SL) : Mc l yX2_pop cX2_pop 1 (some .int) 0 G [.ref (G.2.1 13)] σ τ (Qi G (Ei (f2_pop σ).1 (f2_pop σ).2 τ)) := by
  refine m_start (by decide +kernel) (Nat.le_of_ble_eq_true rfl) rfl (fun p e s m args below meth c ls X I hl => ?_)
  have hl : lv_has ls 1 [(0, .ref (G.2.1 13))] := hl
  obtain ⟨E, hE⟩ : ∃ E, E = (f2_pop σ) := ⟨_, rfl⟩
  rw [← hE]
  refine lv_aload_n X.1 X.2.1 dX2_pop_0 rfl (lv_at hl 0 rfl) ?_
  refine g2_4 X I (k := 13) (by decide) rfl lf_X2_63 dX2_pop_1 ?_
  refine lv_if_le (tgt := 19) X.1 X.2.1 dX2_pop_4 (by decide) (fun c_1 => ?_) (fun c_1 => ?_)
  · skip
    refine lv_iconst (v := 0) X.1 X.2.1 dX2_pop_19 (by decide) ?_
    have h9 := hE.trans ((if_pos c_1).trans rfl)
    exact r_iret X I (e_i (congrArg Prod.fst h9).symm (congrArg Prod.snd h9).symm rfl) dX2_pop_20
  · skip
    refine lv_aload_n X.1 X.2.1 dX2_pop_7 rfl (lv_at hl 0 rfl) ?_
    refine g2_4 X I (k := 13) (by decide) rfl lf_X2_63 dX2_pop_8 ?_
    refine lv_aload_n X.1 X.2.1 dX2_pop_11 rfl (lv_at hl 0 rfl) ?_
    refine g2_1 X I (k := 13) (by decide) rfl lf_X2_18 dX2_pop_12 ?_
    refine r_alen X I (k := 15) (n := 32) (by decide) rfl (v := 32) rfl dX2_pop_15 ?_
    refine lv_icmp_le (tgt := 21) X.1 X.2.1 dX2_pop_16 (by decide) (fun c_2 => ?_) (fun c_2 => ?_)
    · skip
      refine lv_aload_n X.1 X.2.1 dX2_pop_21 rfl (lv_at hl 0 rfl) ?_
      refine lv_dup X.1 X.2.1 dX2_pop_22 rfl ?_
      refine g2_4 X I (k := 13) (by decide) rfl lf_X2_63 dX2_pop_23 ?_
      refine lv_iconst (v := 1) X.1 X.2.1 dX2_pop_26 (by decide) ?_
      refine lv_isub X.1 X.2.1 dX2_pop_27 ?_
      refine p2_4 X I (k := 13) (by decide) rfl lf_X2_63 dX2_pop_28 (fun H locs I => ?_)
      refine lv_aload_n X.1 X.2.1 dX2_pop_31 rfl (lv_at hl 0 rfl) ?_
      refine g2_1 X I (k := 13) (by decide) rfl lf_X2_18 dX2_pop_32 ?_
      refine lv_aload_n X.1 X.2.1 dX2_pop_35 rfl (lv_at hl 0 rfl) ?_
      refine g2_4 X I (k := 13) (by decide) rfl lf_X2_63 dX2_pop_36 ?_
      refine r_ald X I (k := 15) (n := 32) (by decide) rfl (vp_pop c_1 c_2) dX2_pop_39 ?_
      have h9 := hE.trans ((if_neg c_1).trans ((if_pos c_2).trans rfl))
      exact r_iret X I (e_i (congrArg Prod.fst h9).symm (congrArg Prod.snd h9).symm rfl) dX2_pop_40
    · skip
      refine lv_iconst (v := 0) X.1 X.2.1 dX2_pop_19 (by decide) ?_
      have h9 := hE.trans ((if_neg c_1).trans ((if_neg c_2).trans rfl))
      exact r_iret X I (e_i (congrArg Prod.fst h9).symm (congrArg Prod.snd h9).symm rfl) dX2_pop_20
def f2_push (σ : SI) (x1 : Int32) : SI := if (σ 13 4) < (0 : Int32) then σ else (if (32 : Int32) ≤ (σ 13 4) then σ else (let s0 := sp σ 15 (Int32.toNatClampNeg (σ 13 4)) x1; let s1 := sp s0 13 4 ((σ 13 4) + (1 : Int32)); s1))
theorem w_f2_push (σ : SI) (x1 : Int32) (a : Nat) (h0 : a ≠ 13) (h1 : a ≠ 15) : (f2_push σ x1) a = σ a := by
  unfold f2_push
  (repeat' split) <;> (first | rfl | (simp only [sp_n, su_n, ne_eq, not_false_eq_true, h0, h1]; done) | (simp [sp_n, su_n, ne_eq, not_false_eq_true, h0, h1]; done))
set_option maxHeartbeats 4000000 in
set_option maxRecDepth 100000 in
theorem c2_push (l : Launch) (G : GT) (σ : SI) (τ : SL) (x1 : Int32) : Mc l yX2_push cX2_push 2 none 0 G [.ref (G.2.1 13), .int x1] σ τ (Qv G (Ev (f2_push σ x1) τ)) := by
  refine m_start (by decide +kernel) (Nat.le_of_ble_eq_true rfl) rfl (fun p e s m args below meth c ls X I hl => ?_)
  have hl : lv_has ls 2 [(0, .ref (G.2.1 13)), (1, .int x1)] := hl
  obtain ⟨E, hE⟩ : ∃ E, E = (f2_push σ x1) := ⟨_, rfl⟩
  rw [← hE]
  refine lv_aload_n X.1 X.2.1 dX2_push_0 rfl (lv_at hl 0 rfl) ?_
  refine g2_4 X I (k := 13) (by decide) rfl lf_X2_63 dX2_push_1 ?_
  refine lv_if_lt (tgt := 39) X.1 X.2.1 dX2_push_4 (by decide) (fun c_1 => ?_) (fun c_1 => ?_)
  · skip
    have h9 := hE.trans ((if_pos c_1).trans rfl)
    exact r_vret X I (e_v (h9).symm rfl) dX2_push_39
  · skip
    refine lv_aload_n X.1 X.2.1 dX2_push_7 rfl (lv_at hl 0 rfl) ?_
    refine g2_4 X I (k := 13) (by decide) rfl lf_X2_63 dX2_push_8 ?_
    refine lv_aload_n X.1 X.2.1 dX2_push_11 rfl (lv_at hl 0 rfl) ?_
    refine g2_1 X I (k := 13) (by decide) rfl lf_X2_18 dX2_push_12 ?_
    refine r_alen X I (k := 15) (n := 32) (by decide) rfl (v := 32) rfl dX2_push_15 ?_
    refine lv_icmp_ge (tgt := 39) X.1 X.2.1 dX2_push_16 (by decide) (fun c_2 => ?_) (fun c_2 => ?_)
    · skip
      have h9 := hE.trans ((if_neg c_1).trans ((if_pos c_2).trans rfl))
      exact r_vret X I (e_v (h9).symm rfl) dX2_push_39
    · skip
      refine lv_aload_n X.1 X.2.1 dX2_push_19 rfl (lv_at hl 0 rfl) ?_
      refine g2_1 X I (k := 13) (by decide) rfl lf_X2_18 dX2_push_20 ?_
      refine lv_aload_n X.1 X.2.1 dX2_push_23 rfl (lv_at hl 0 rfl) ?_
      refine g2_4 X I (k := 13) (by decide) rfl lf_X2_63 dX2_push_24 ?_
      refine lv_iload_n X.1 X.2.1 dX2_push_27 rfl (lv_at hl 1 rfl) ?_
      refine r_ast X I (k := 15) (n := 32) (by decide) rfl (vp_g (n := 32) (by decide) c_1 c_2) dX2_push_28 (fun H locs I => ?_)
      refine lv_aload_n X.1 X.2.1 dX2_push_29 rfl (lv_at hl 0 rfl) ?_
      refine lv_dup X.1 X.2.1 dX2_push_30 rfl ?_
      refine g2_4 X I (k := 13) (by decide) rfl lf_X2_63 dX2_push_31 ?_
      refine lv_iconst (v := 1) X.1 X.2.1 dX2_push_34 (by decide) ?_
      refine lv_iadd X.1 X.2.1 dX2_push_35 ?_
      refine p2_4 X I (k := 13) (by decide) rfl lf_X2_63 dX2_push_36 (fun H locs I => ?_)
      have h9 := hE.trans ((if_neg c_1).trans ((if_neg c_2).trans rfl))
      exact r_vret X I (e_v (h9).symm rfl) dX2_push_39
def f2_worked (x0 : Int32) (x1 : Int32) (x2 : Int32) : Int32 := if x0 = 38 then (x1 &&& x2) else (if x0 = 42 then (f11_within ((Int32.toInt64 x1) * (Int32.toInt64 x2)) (-1000000 : Int32) (1000000 : Int32)) else (if x0 = 43 then (f11_within ((Int32.toInt64 x1) + (Int32.toInt64 x2)) (-1000000 : Int32) (1000000 : Int32)) else (if x0 = 45 then (f11_within ((Int32.toInt64 x1) - (Int32.toInt64 x2)) (-1000000 : Int32) (1000000 : Int32)) else (if x0 = 47 then (if x2 = (0 : Int32) then (0 : Int32) else (x1 / x2)) else (if x0 = 60 then (if x2 ≤ x1 then (0 : Int32) else (1 : Int32)) else (if x0 = 61 then (if x1 = x2 then (1 : Int32) else (0 : Int32)) else (if x0 = 62 then (if x1 ≤ x2 then (0 : Int32) else (1 : Int32)) else (if x0 = 124 then (x1 ||| x2) else (0 : Int32)))))))))
set_option maxHeartbeats 4000000 in
set_option maxRecDepth 100000 in
theorem c2_worked (l : Launch) (G : GT) (σ : SI) (τ : SL) (x0 : Int32) (x1 : Int32) (x2 : Int32) : Mc l yX2_worked cX2_worked 3 (some .int) 1 G [.int x0, .int x1, .int x2] σ τ (Qi G (Ei (f2_worked x0 x1 x2) σ τ)) := by
  refine m_start (by decide +kernel) (Nat.le_of_ble_eq_true rfl) rfl (fun p e s m args below meth c ls X I hl => ?_)
  have hl : lv_has ls 3 [(0, .int x0), (1, .int x1), (2, .int x2)] := hl
  obtain ⟨E, hE⟩ : ∃ E, E = (f2_worked x0 x1 x2) := ⟨_, rfl⟩
  rw [← hE]
  refine lv_iload_n X.1 X.2.1 dX2_worked_0 rfl (lv_at hl 0 rfl) ?_
  rcases Classical.em (x0 = 38) with c_1 | c_1
  · skip
    refine lv_lookup (off := 167) (tgt := 168) X.1 X.2.1 dX2_worked_1 (by decide) (by rw [c_1]; decide) (by decide) ?_
    refine lv_iload_n X.1 X.2.1 dX2_worked_168 rfl (lv_at hl 1 rfl) ?_
    refine lv_iload_n X.1 X.2.1 dX2_worked_169 rfl (lv_at hl 2 rfl) ?_
    refine lv_iand X.1 X.2.1 dX2_worked_170 ?_
    have h9 := hE.trans ((if_pos c_1).trans rfl)
    exact r_iret X I (e_i (h9).symm rfl rfl) dX2_worked_171
  rcases Classical.em (x0 = 42) with c_2 | c_2
  · skip
    refine lv_lookup (off := 109) (tgt := 110) X.1 X.2.1 dX2_worked_1 (by decide) (by rw [c_2]; decide) (by decide) ?_
    refine lv_iload_n X.1 X.2.1 dX2_worked_110 rfl (lv_at hl 1 rfl) ?_
    refine lv_i2l X.1 X.2.1 dX2_worked_111 rfl ?_
    refine lv_iload_n X.1 X.2.1 dX2_worked_112 rfl (lv_at hl 2 rfl) ?_
    refine lv_i2l X.1 X.2.1 dX2_worked_113 rfl ?_
    refine lv_lmul X.1 X.2.1 dX2_worked_114 ?_
    refine lv_ldc X.1 X.2.1 (v := (-1000000)) X.2.2.2.2.1 (X.2.2.2.1 _ lq_X2_88) dX2_worked_115 ?_
    refine lv_ldc X.1 X.2.1 (v := 1000000) X.2.2.2.2.1 (X.2.2.2.1 _ lq_X2_89) dX2_worked_117 ?_
    refine r_ei I (r_runN X I pk_X11_within (c11_within l G _ _ _ _ _) (by decide +kernel) rfl hl.1 rfl (Nat.le_of_ble_eq_true rfl) dX2_worked_119 ⟨Nat.le_of_ble_eq_true rfl, Nat.le_of_ble_eq_true rfl⟩ ⟨Nat.le_refl 0, Nat.le_refl 0⟩) (fun H locs I => ?_)
    have h9 := hE.trans ((if_neg c_1).trans ((if_pos c_2).trans rfl))
    exact r_iret X I (e_i (h9).symm rfl rfl) dX2_worked_122
  rcases Classical.em (x0 = 43) with c_3 | c_3
  · skip
    refine lv_lookup (off := 83) (tgt := 84) X.1 X.2.1 dX2_worked_1 (by decide) (by rw [c_3]; decide) (by decide) ?_
    refine lv_iload_n X.1 X.2.1 dX2_worked_84 rfl (lv_at hl 1 rfl) ?_
    refine lv_i2l X.1 X.2.1 dX2_worked_85 rfl ?_
    refine lv_iload_n X.1 X.2.1 dX2_worked_86 rfl (lv_at hl 2 rfl) ?_
    refine lv_i2l X.1 X.2.1 dX2_worked_87 rfl ?_
    refine lv_ladd X.1 X.2.1 dX2_worked_88 ?_
    refine lv_ldc X.1 X.2.1 (v := (-1000000)) X.2.2.2.2.1 (X.2.2.2.1 _ lq_X2_88) dX2_worked_89 ?_
    refine lv_ldc X.1 X.2.1 (v := 1000000) X.2.2.2.2.1 (X.2.2.2.1 _ lq_X2_89) dX2_worked_91 ?_
    refine r_ei I (r_runN X I pk_X11_within (c11_within l G _ _ _ _ _) (by decide +kernel) rfl hl.1 rfl (Nat.le_of_ble_eq_true rfl) dX2_worked_93 ⟨Nat.le_of_ble_eq_true rfl, Nat.le_of_ble_eq_true rfl⟩ ⟨Nat.le_refl 0, Nat.le_refl 0⟩) (fun H locs I => ?_)
    have h9 := hE.trans ((if_neg c_1).trans ((if_neg c_2).trans ((if_pos c_3).trans rfl)))
    exact r_iret X I (e_i (h9).symm rfl rfl) dX2_worked_96
  rcases Classical.em (x0 = 45) with c_4 | c_4
  · skip
    refine lv_lookup (off := 96) (tgt := 97) X.1 X.2.1 dX2_worked_1 (by decide) (by rw [c_4]; decide) (by decide) ?_
    refine lv_iload_n X.1 X.2.1 dX2_worked_97 rfl (lv_at hl 1 rfl) ?_
    refine lv_i2l X.1 X.2.1 dX2_worked_98 rfl ?_
    refine lv_iload_n X.1 X.2.1 dX2_worked_99 rfl (lv_at hl 2 rfl) ?_
    refine lv_i2l X.1 X.2.1 dX2_worked_100 rfl ?_
    refine lv_lsub X.1 X.2.1 dX2_worked_101 ?_
    refine lv_ldc X.1 X.2.1 (v := (-1000000)) X.2.2.2.2.1 (X.2.2.2.1 _ lq_X2_88) dX2_worked_102 ?_
    refine lv_ldc X.1 X.2.1 (v := 1000000) X.2.2.2.2.1 (X.2.2.2.1 _ lq_X2_89) dX2_worked_104 ?_
    refine r_ei I (r_runN X I pk_X11_within (c11_within l G _ _ _ _ _) (by decide +kernel) rfl hl.1 rfl (Nat.le_of_ble_eq_true rfl) dX2_worked_106 ⟨Nat.le_of_ble_eq_true rfl, Nat.le_of_ble_eq_true rfl⟩ ⟨Nat.le_refl 0, Nat.le_refl 0⟩) (fun H locs I => ?_)
    have h9 := hE.trans ((if_neg c_1).trans ((if_neg c_2).trans ((if_neg c_3).trans ((if_pos c_4).trans rfl))))
    exact r_iret X I (e_i (h9).symm rfl rfl) dX2_worked_109
  rcases Classical.em (x0 = 47) with c_5 | c_5
  · skip
    refine lv_lookup (off := 122) (tgt := 123) X.1 X.2.1 dX2_worked_1 (by decide) (by rw [c_5]; decide) (by decide) ?_
    refine lv_iload_n X.1 X.2.1 dX2_worked_123 rfl (lv_at hl 2 rfl) ?_
    refine lv_if_ne (tgt := 131) X.1 X.2.1 dX2_worked_124 (by decide) (fun c_6 => ?_) (fun c_6 => ?_)
    · skip
      refine lv_iload_n X.1 X.2.1 dX2_worked_131 rfl (lv_at hl 1 rfl) ?_
      refine lv_iload_n X.1 X.2.1 dX2_worked_132 rfl (lv_at hl 2 rfl) ?_
      refine lv_idiv X.1 X.2.1 dX2_worked_133 c_6 ?_
      have h9 := hE.trans ((if_neg c_1).trans ((if_neg c_2).trans ((if_neg c_3).trans ((if_neg c_4).trans ((if_pos c_5).trans ((if_neg c_6).trans rfl))))))
      exact r_iret X I (e_i (h9).symm rfl rfl) dX2_worked_134
    · skip
      refine lv_iconst (v := 0) X.1 X.2.1 dX2_worked_127 (by decide) ?_
      refine lv_goto (tgt := 134) X.1 X.2.1 dX2_worked_128 (by decide) ?_
      have h9 := hE.trans ((if_neg c_1).trans ((if_neg c_2).trans ((if_neg c_3).trans ((if_neg c_4).trans ((if_pos c_5).trans ((if_pos c_6).trans rfl))))))
      exact r_iret X I (e_i (h9).symm rfl rfl) dX2_worked_134
  rcases Classical.em (x0 = 60) with c_7 | c_7
  · skip
    refine lv_lookup (off := 145) (tgt := 146) X.1 X.2.1 dX2_worked_1 (by decide) (by rw [c_7]; decide) (by decide) ?_
    refine lv_iload_n X.1 X.2.1 dX2_worked_146 rfl (lv_at hl 1 rfl) ?_
    refine lv_iload_n X.1 X.2.1 dX2_worked_147 rfl (lv_at hl 2 rfl) ?_
    refine lv_icmp_ge (tgt := 155) X.1 X.2.1 dX2_worked_148 (by decide) (fun c_8 => ?_) (fun c_8 => ?_)
    · skip
      refine lv_iconst (v := 0) X.1 X.2.1 dX2_worked_155 (by decide) ?_
      have h9 := hE.trans ((if_neg c_1).trans ((if_neg c_2).trans ((if_neg c_3).trans ((if_neg c_4).trans ((if_neg c_5).trans ((if_pos c_7).trans ((if_pos c_8).trans rfl)))))))
      exact r_iret X I (e_i (h9).symm rfl rfl) dX2_worked_156
    · skip
      refine lv_iconst (v := 1) X.1 X.2.1 dX2_worked_151 (by decide) ?_
      refine lv_goto (tgt := 156) X.1 X.2.1 dX2_worked_152 (by decide) ?_
      have h9 := hE.trans ((if_neg c_1).trans ((if_neg c_2).trans ((if_neg c_3).trans ((if_neg c_4).trans ((if_neg c_5).trans ((if_pos c_7).trans ((if_neg c_8).trans rfl)))))))
      exact r_iret X I (e_i (h9).symm rfl rfl) dX2_worked_156
  rcases Classical.em (x0 = 61) with c_9 | c_9
  · skip
    refine lv_lookup (off := 134) (tgt := 135) X.1 X.2.1 dX2_worked_1 (by decide) (by rw [c_9]; decide) (by decide) ?_
    refine lv_iload_n X.1 X.2.1 dX2_worked_135 rfl (lv_at hl 1 rfl) ?_
    refine lv_iload_n X.1 X.2.1 dX2_worked_136 rfl (lv_at hl 2 rfl) ?_
    refine lv_icmp_ne (tgt := 144) X.1 X.2.1 dX2_worked_137 (by decide) (fun c_10 => ?_) (fun c_10 => ?_)
    · skip
      refine lv_iconst (v := 0) X.1 X.2.1 dX2_worked_144 (by decide) ?_
      have h9 := hE.trans ((if_neg c_1).trans ((if_neg c_2).trans ((if_neg c_3).trans ((if_neg c_4).trans ((if_neg c_5).trans ((if_neg c_7).trans ((if_pos c_9).trans ((if_neg c_10).trans rfl))))))))
      exact r_iret X I (e_i (h9).symm rfl rfl) dX2_worked_145
    · skip
      refine lv_iconst (v := 1) X.1 X.2.1 dX2_worked_140 (by decide) ?_
      refine lv_goto (tgt := 145) X.1 X.2.1 dX2_worked_141 (by decide) ?_
      have h9 := hE.trans ((if_neg c_1).trans ((if_neg c_2).trans ((if_neg c_3).trans ((if_neg c_4).trans ((if_neg c_5).trans ((if_neg c_7).trans ((if_pos c_9).trans ((if_pos c_10).trans rfl))))))))
      exact r_iret X I (e_i (h9).symm rfl rfl) dX2_worked_145
  rcases Classical.em (x0 = 62) with c_11 | c_11
  · skip
    refine lv_lookup (off := 156) (tgt := 157) X.1 X.2.1 dX2_worked_1 (by decide) (by rw [c_11]; decide) (by decide) ?_
    refine lv_iload_n X.1 X.2.1 dX2_worked_157 rfl (lv_at hl 1 rfl) ?_
    refine lv_iload_n X.1 X.2.1 dX2_worked_158 rfl (lv_at hl 2 rfl) ?_
    refine lv_icmp_le (tgt := 166) X.1 X.2.1 dX2_worked_159 (by decide) (fun c_12 => ?_) (fun c_12 => ?_)
    · skip
      refine lv_iconst (v := 0) X.1 X.2.1 dX2_worked_166 (by decide) ?_
      have h9 := hE.trans ((if_neg c_1).trans ((if_neg c_2).trans ((if_neg c_3).trans ((if_neg c_4).trans ((if_neg c_5).trans ((if_neg c_7).trans ((if_neg c_9).trans ((if_pos c_11).trans ((if_pos c_12).trans rfl)))))))))
      exact r_iret X I (e_i (h9).symm rfl rfl) dX2_worked_167
    · skip
      refine lv_iconst (v := 1) X.1 X.2.1 dX2_worked_162 (by decide) ?_
      refine lv_goto (tgt := 167) X.1 X.2.1 dX2_worked_163 (by decide) ?_
      have h9 := hE.trans ((if_neg c_1).trans ((if_neg c_2).trans ((if_neg c_3).trans ((if_neg c_4).trans ((if_neg c_5).trans ((if_neg c_7).trans ((if_neg c_9).trans ((if_pos c_11).trans ((if_neg c_12).trans rfl)))))))))
      exact r_iret X I (e_i (h9).symm rfl rfl) dX2_worked_167
  rcases Classical.em (x0 = 124) with c_13 | c_13
  · skip
    refine lv_lookup (off := 171) (tgt := 172) X.1 X.2.1 dX2_worked_1 (by decide) (by rw [c_13]; decide) (by decide) ?_
    refine lv_iload_n X.1 X.2.1 dX2_worked_172 rfl (lv_at hl 1 rfl) ?_
    refine lv_iload_n X.1 X.2.1 dX2_worked_173 rfl (lv_at hl 2 rfl) ?_
    refine lv_ior X.1 X.2.1 dX2_worked_174 ?_
    have h9 := hE.trans ((if_neg c_1).trans ((if_neg c_2).trans ((if_neg c_3).trans ((if_neg c_4).trans ((if_neg c_5).trans ((if_neg c_7).trans ((if_neg c_9).trans ((if_neg c_11).trans ((if_pos c_13).trans rfl)))))))))
    exact r_iret X I (e_i (h9).symm rfl rfl) dX2_worked_175
  refine lv_lookup (off := 175) (tgt := 176) X.1 X.2.1 dX2_worked_1 (by decide) (sw_def _ _ _ (by decide) (fun q hq => by
    simp only [List.mem_cons, List.not_mem_nil, or_false] at hq
    rcases hq with rfl | rfl | rfl | rfl | rfl | rfl | rfl | rfl | rfl
    · exact fun h9 => c_1 (sw_eq h9)
    · exact fun h9 => c_2 (sw_eq h9)
    · exact fun h9 => c_3 (sw_eq h9)
    · exact fun h9 => c_4 (sw_eq h9)
    · exact fun h9 => c_5 (sw_eq h9)
    · exact fun h9 => c_7 (sw_eq h9)
    · exact fun h9 => c_9 (sw_eq h9)
    · exact fun h9 => c_11 (sw_eq h9)
    · exact fun h9 => c_13 (sw_eq h9))) (by decide) ?_
  refine lv_iconst (v := 0) X.1 X.2.1 dX2_worked_176 (by decide) ?_
  have h9 := hE.trans ((if_neg c_1).trans ((if_neg c_2).trans ((if_neg c_3).trans ((if_neg c_4).trans ((if_neg c_5).trans ((if_neg c_7).trans ((if_neg c_9).trans ((if_neg c_11).trans ((if_neg c_13).trans rfl)))))))))
  exact r_iret X I (e_i (h9).symm rfl rfl) dX2_worked_177
def f2_work (σ : SI) (x1 : Int32) : SI := if x1 = 33 then (let r0 := (f2_pop σ); let s1 := (f2_push r0.2 ((1 : Int32) - r0.1)); s1) else (if x1 = 100 then (let s2 := (f2_push σ (σ 13 9)); s2) else (if x1 = 103 then (let s3 := (f2_push σ (σ 13 5)); s3) else (if x1 = 110 then (let s4 := (f2_push σ (σ 13 8)); s4) else (if x1 = 113 then (let s5 := (f2_push σ (σ 13 6)); s5) else (if x1 = 116 then (let s6 := (f2_push σ (σ 13 7)); s6) else (if x1 = 121 then (let s7 := (f2_push σ (σ 13 10)); s7) else (let r8 := (f2_pop σ); let r9 := (f2_pop r8.2); let s10 := (f2_push r9.2 (f2_worked x1 r9.1 r8.1)); s10)))))))
theorem w_f2_work (σ : SI) (x1 : Int32) (a : Nat) (h0 : a ≠ 13) (h1 : a ≠ 15) : (f2_work σ x1) a = σ a := by
  unfold f2_work
  (repeat' split) <;> (first | rfl | (simp only [sp_n, su_n, ne_eq, not_false_eq_true, h0, h1, w_f2_pop, w_f2_push]; done) | (simp [sp_n, su_n, ne_eq, not_false_eq_true, h0, h1, w_f2_pop, w_f2_push]; done))
set_option maxHeartbeats 4000000 in
set_option maxRecDepth 100000 in
theorem c2_work (l : Launch) (G : GT) (σ : SI) (τ : SL) (x1 : Int32) : Mc l yX2_work cX2_work 4 none 2 G [.ref (G.2.1 13), .int x1] σ τ (Qv G (Ev (f2_work σ x1) τ)) := by
  refine m_start (by decide +kernel) (Nat.le_of_ble_eq_true rfl) rfl (fun p e s m args below meth c ls X I hl => ?_)
  have hl : lv_has ls 4 [(0, .ref (G.2.1 13)), (1, .int x1)] := hl
  obtain ⟨E, hE⟩ : ∃ E, E = (f2_work σ x1) := ⟨_, rfl⟩
  rw [← hE]
  refine lv_iload_n X.1 X.2.1 dX2_work_0 rfl (lv_at hl 1 rfl) ?_
  rcases Classical.em (x1 = 33) with c_1 | c_1
  · skip
    refine lv_lookup (off := 133) (tgt := 134) X.1 X.2.1 dX2_work_1 (by decide) (by rw [c_1]; decide) (by decide) ?_
    refine lv_aload_n X.1 X.2.1 dX2_work_134 rfl (lv_at hl 0 rfl) ?_
    refine lv_iconst (v := 1) X.1 X.2.1 dX2_work_135 (by decide) ?_
    refine lv_aload_n X.1 X.2.1 dX2_work_136 rfl (lv_at hl 0 rfl) ?_
    refine r_ei I (r_runV X I pk_X2_pop (c2_pop l G _ _) lm_X2_74 (by decide) (cl_2 rfl) rfl rfl rfl hl.1 rfl (Nat.le_of_ble_eq_true rfl) dX2_work_137 ⟨Nat.le_of_ble_eq_true rfl, Nat.le_of_ble_eq_true rfl⟩ ⟨Nat.le_refl 0, Nat.le_refl 0⟩) (fun H locs I => ?_)
    refine lv_isub X.1 X.2.1 dX2_work_140 ?_
    refine r_ev I (r_runV X I pk_X2_push (c2_push l G _ _ _) lm_X2_77 (by decide) (cl_2 rfl) rfl rfl rfl hl.1 rfl (Nat.le_of_ble_eq_true rfl) dX2_work_141 ⟨Nat.le_of_ble_eq_true rfl, Nat.le_of_ble_eq_true rfl⟩ ⟨Nat.le_refl 0, Nat.le_refl 0⟩) (fun H locs I => ?_)
    refine lv_goto (tgt := 167) X.1 X.2.1 dX2_work_144 (by decide) ?_
    have h9 := hE.trans ((if_pos c_1).trans rfl)
    exact r_vret X I (e_v (h9).symm rfl) dX2_work_167
  rcases Classical.em (x1 = 100) with c_2 | c_2
  · skip
    refine lv_lookup (off := 111) (tgt := 112) X.1 X.2.1 dX2_work_1 (by decide) (by rw [c_2]; decide) (by decide) ?_
    refine lv_aload_n X.1 X.2.1 dX2_work_112 rfl (lv_at hl 0 rfl) ?_
    refine lv_aload_n X.1 X.2.1 dX2_work_113 rfl (lv_at hl 0 rfl) ?_
    refine g2_9 X I (k := 13) (by decide) rfl lf_X2_49 dX2_work_114 ?_
    refine r_ev I (r_runV X I pk_X2_push (c2_push l G _ _ _) lm_X2_77 (by decide) (cl_2 rfl) rfl rfl rfl hl.1 rfl (Nat.le_of_ble_eq_true rfl) dX2_work_117 ⟨Nat.le_of_ble_eq_true rfl, Nat.le_of_ble_eq_true rfl⟩ ⟨Nat.le_refl 0, Nat.le_refl 0⟩) (fun H locs I => ?_)
    refine lv_goto (tgt := 167) X.1 X.2.1 dX2_work_120 (by decide) ?_
    have h9 := hE.trans ((if_neg c_1).trans ((if_pos c_2).trans rfl))
    exact r_vret X I (e_v (h9).symm rfl) dX2_work_167
  rcases Classical.em (x1 = 103) with c_3 | c_3
  · skip
    refine lv_lookup (off := 67) (tgt := 68) X.1 X.2.1 dX2_work_1 (by decide) (by rw [c_3]; decide) (by decide) ?_
    refine lv_aload_n X.1 X.2.1 dX2_work_68 rfl (lv_at hl 0 rfl) ?_
    refine lv_aload_n X.1 X.2.1 dX2_work_69 rfl (lv_at hl 0 rfl) ?_
    refine g2_5 X I (k := 13) (by decide) rfl lf_X2_37 dX2_work_70 ?_
    refine r_ev I (r_runV X I pk_X2_push (c2_push l G _ _ _) lm_X2_77 (by decide) (cl_2 rfl) rfl rfl rfl hl.1 rfl (Nat.le_of_ble_eq_true rfl) dX2_work_73 ⟨Nat.le_of_ble_eq_true rfl, Nat.le_of_ble_eq_true rfl⟩ ⟨Nat.le_refl 0, Nat.le_refl 0⟩) (fun H locs I => ?_)
    refine lv_goto (tgt := 167) X.1 X.2.1 dX2_work_76 (by decide) ?_
    have h9 := hE.trans ((if_neg c_1).trans ((if_neg c_2).trans ((if_pos c_3).trans rfl)))
    exact r_vret X I (e_v (h9).symm rfl) dX2_work_167
  rcases Classical.em (x1 = 110) with c_4 | c_4
  · skip
    refine lv_lookup (off := 100) (tgt := 101) X.1 X.2.1 dX2_work_1 (by decide) (by rw [c_4]; decide) (by decide) ?_
    refine lv_aload_n X.1 X.2.1 dX2_work_101 rfl (lv_at hl 0 rfl) ?_
    refine lv_aload_n X.1 X.2.1 dX2_work_102 rfl (lv_at hl 0 rfl) ?_
    refine g2_8 X I (k := 13) (by decide) rfl lf_X2_46 dX2_work_103 ?_
    refine r_ev I (r_runV X I pk_X2_push (c2_push l G _ _ _) lm_X2_77 (by decide) (cl_2 rfl) rfl rfl rfl hl.1 rfl (Nat.le_of_ble_eq_true rfl) dX2_work_106 ⟨Nat.le_of_ble_eq_true rfl, Nat.le_of_ble_eq_true rfl⟩ ⟨Nat.le_refl 0, Nat.le_refl 0⟩) (fun H locs I => ?_)
    refine lv_goto (tgt := 167) X.1 X.2.1 dX2_work_109 (by decide) ?_
    have h9 := hE.trans ((if_neg c_1).trans ((if_neg c_2).trans ((if_neg c_3).trans ((if_pos c_4).trans rfl))))
    exact r_vret X I (e_v (h9).symm rfl) dX2_work_167
  rcases Classical.em (x1 = 113) with c_5 | c_5
  · skip
    refine lv_lookup (off := 78) (tgt := 79) X.1 X.2.1 dX2_work_1 (by decide) (by rw [c_5]; decide) (by decide) ?_
    refine lv_aload_n X.1 X.2.1 dX2_work_79 rfl (lv_at hl 0 rfl) ?_
    refine lv_aload_n X.1 X.2.1 dX2_work_80 rfl (lv_at hl 0 rfl) ?_
    refine g2_6 X I (k := 13) (by decide) rfl lf_X2_40 dX2_work_81 ?_
    refine r_ev I (r_runV X I pk_X2_push (c2_push l G _ _ _) lm_X2_77 (by decide) (cl_2 rfl) rfl rfl rfl hl.1 rfl (Nat.le_of_ble_eq_true rfl) dX2_work_84 ⟨Nat.le_of_ble_eq_true rfl, Nat.le_of_ble_eq_true rfl⟩ ⟨Nat.le_refl 0, Nat.le_refl 0⟩) (fun H locs I => ?_)
    refine lv_goto (tgt := 167) X.1 X.2.1 dX2_work_87 (by decide) ?_
    have h9 := hE.trans ((if_neg c_1).trans ((if_neg c_2).trans ((if_neg c_3).trans ((if_neg c_4).trans ((if_pos c_5).trans rfl)))))
    exact r_vret X I (e_v (h9).symm rfl) dX2_work_167
  rcases Classical.em (x1 = 116) with c_6 | c_6
  · skip
    refine lv_lookup (off := 89) (tgt := 90) X.1 X.2.1 dX2_work_1 (by decide) (by rw [c_6]; decide) (by decide) ?_
    refine lv_aload_n X.1 X.2.1 dX2_work_90 rfl (lv_at hl 0 rfl) ?_
    refine lv_aload_n X.1 X.2.1 dX2_work_91 rfl (lv_at hl 0 rfl) ?_
    refine g2_7 X I (k := 13) (by decide) rfl lf_X2_43 dX2_work_92 ?_
    refine r_ev I (r_runV X I pk_X2_push (c2_push l G _ _ _) lm_X2_77 (by decide) (cl_2 rfl) rfl rfl rfl hl.1 rfl (Nat.le_of_ble_eq_true rfl) dX2_work_95 ⟨Nat.le_of_ble_eq_true rfl, Nat.le_of_ble_eq_true rfl⟩ ⟨Nat.le_refl 0, Nat.le_refl 0⟩) (fun H locs I => ?_)
    refine lv_goto (tgt := 167) X.1 X.2.1 dX2_work_98 (by decide) ?_
    have h9 := hE.trans ((if_neg c_1).trans ((if_neg c_2).trans ((if_neg c_3).trans ((if_neg c_4).trans ((if_neg c_5).trans ((if_pos c_6).trans rfl))))))
    exact r_vret X I (e_v (h9).symm rfl) dX2_work_167
  rcases Classical.em (x1 = 121) with c_7 | c_7
  · skip
    refine lv_lookup (off := 122) (tgt := 123) X.1 X.2.1 dX2_work_1 (by decide) (by rw [c_7]; decide) (by decide) ?_
    refine lv_aload_n X.1 X.2.1 dX2_work_123 rfl (lv_at hl 0 rfl) ?_
    refine lv_aload_n X.1 X.2.1 dX2_work_124 rfl (lv_at hl 0 rfl) ?_
    refine g2_10 X I (k := 13) (by decide) rfl lf_X2_52 dX2_work_125 ?_
    refine r_ev I (r_runV X I pk_X2_push (c2_push l G _ _ _) lm_X2_77 (by decide) (cl_2 rfl) rfl rfl rfl hl.1 rfl (Nat.le_of_ble_eq_true rfl) dX2_work_128 ⟨Nat.le_of_ble_eq_true rfl, Nat.le_of_ble_eq_true rfl⟩ ⟨Nat.le_refl 0, Nat.le_refl 0⟩) (fun H locs I => ?_)
    refine lv_goto (tgt := 167) X.1 X.2.1 dX2_work_131 (by decide) ?_
    have h9 := hE.trans ((if_neg c_1).trans ((if_neg c_2).trans ((if_neg c_3).trans ((if_neg c_4).trans ((if_neg c_5).trans ((if_neg c_6).trans ((if_pos c_7).trans rfl)))))))
    exact r_vret X I (e_v (h9).symm rfl) dX2_work_167
  refine lv_lookup (off := 146) (tgt := 147) X.1 X.2.1 dX2_work_1 (by decide) (sw_def _ _ _ (by decide) (fun q hq => by
    simp only [List.mem_cons, List.not_mem_nil, or_false] at hq
    rcases hq with rfl | rfl | rfl | rfl | rfl | rfl | rfl
    · exact fun h9 => c_1 (sw_eq h9)
    · exact fun h9 => c_2 (sw_eq h9)
    · exact fun h9 => c_3 (sw_eq h9)
    · exact fun h9 => c_4 (sw_eq h9)
    · exact fun h9 => c_5 (sw_eq h9)
    · exact fun h9 => c_6 (sw_eq h9)
    · exact fun h9 => c_7 (sw_eq h9))) (by decide) ?_
  refine lv_aload_n X.1 X.2.1 dX2_work_147 rfl (lv_at hl 0 rfl) ?_
  refine r_ei I (r_runV X I pk_X2_pop (c2_pop l G _ _) lm_X2_74 (by decide) (cl_2 rfl) rfl rfl rfl hl.1 rfl (Nat.le_of_ble_eq_true rfl) dX2_work_148 ⟨Nat.le_of_ble_eq_true rfl, Nat.le_of_ble_eq_true rfl⟩ ⟨Nat.le_refl 0, Nat.le_refl 0⟩) (fun H locs I => ?_)
  refine lv_istore_n (lv' := [(2, .int _), (0, .ref _), (1, .int _)]) X.1 X.2.1 dX2_work_151 rfl hl (by decide) rfl (fun ls hl => ?_)
  refine lv_aload_n X.1 X.2.1 dX2_work_152 rfl (lv_at hl 1 rfl) ?_
  refine r_ei I (r_runV X I pk_X2_pop (c2_pop l G _ _) lm_X2_74 (by decide) (cl_2 rfl) rfl rfl rfl hl.1 rfl (Nat.le_of_ble_eq_true rfl) dX2_work_153 ⟨Nat.le_of_ble_eq_true rfl, Nat.le_of_ble_eq_true rfl⟩ ⟨Nat.le_refl 0, Nat.le_refl 0⟩) (fun H locs I => ?_)
  refine lv_istore_n (lv' := [(3, .int _), (2, .int _), (0, .ref _), (1, .int _)]) X.1 X.2.1 dX2_work_156 rfl hl (by decide) rfl (fun ls hl => ?_)
  refine lv_aload_n X.1 X.2.1 dX2_work_157 rfl (lv_at hl 2 rfl) ?_
  refine lv_iload_n X.1 X.2.1 dX2_work_158 rfl (lv_at hl 3 rfl) ?_
  refine lv_iload_n X.1 X.2.1 dX2_work_159 rfl (lv_at hl 0 rfl) ?_
  refine lv_iload_n X.1 X.2.1 dX2_work_160 rfl (lv_at hl 1 rfl) ?_
  refine r_ei I (r_runS X I pk_X2_worked (c2_worked l G _ _ _ _ _) lm_X2_84 rfl hl.1 rfl (Nat.le_of_ble_eq_true rfl) dX2_work_161 ⟨Nat.le_of_ble_eq_true rfl, Nat.le_of_ble_eq_true rfl⟩ ⟨Nat.le_refl 0, Nat.le_refl 0⟩) (fun H locs I => ?_)
  refine r_ev I (r_runV X I pk_X2_push (c2_push l G _ _ _) lm_X2_77 (by decide) (cl_2 rfl) rfl rfl rfl hl.1 rfl (Nat.le_of_ble_eq_true rfl) dX2_work_164 ⟨Nat.le_of_ble_eq_true rfl, Nat.le_of_ble_eq_true rfl⟩ ⟨Nat.le_refl 0, Nat.le_refl 0⟩) (fun H locs I => ?_)
  have h9 := hE.trans ((if_neg c_1).trans ((if_neg c_2).trans ((if_neg c_3).trans ((if_neg c_4).trans ((if_neg c_5).trans ((if_neg c_6).trans ((if_neg c_7).trans rfl)))))))
  exact r_vret X I (e_v (h9).symm rfl) dX2_work_167
def f2_worthBy_c9 (k1 : Nat) : Nat → Int32 → Int32 → SI → (Int32 × SI)
  | 0, _, _, σ => (0, σ)
  | fu + 1, v2, v3, σ => if (f1_size k1 σ) ≤ v3 then ((0 : Int32), σ) else (if v2 = (0 : Int32) then (if (f1_signAt k1 σ v3) = (-59 : Int32) then (let r4 := (f2_pop σ); (r4.1, r4.2)) else (if (f1_signAt k1 σ v3) = (-63 : Int32) then (let r3 := (f2_pop σ); if r3.1 = (0 : Int32) then (f2_worthBy_c9 k1 fu (1 : Int32) (v3 + 1) r3.2) else (f2_worthBy_c9 k1 fu (0 : Int32) (v3 + 1) r3.2)) else (if (f1_signAt k1 σ v3) < (0 : Int32) then (let s1 := (f2_work σ (-(f1_signAt k1 σ v3))); (f2_worthBy_c9 k1 fu v2 (v3 + 1) s1)) else (let s2 := (f2_push σ (f1_signAt k1 σ v3)); (f2_worthBy_c9 k1 fu v2 (v3 + 1) s2))))) else (if (f1_signAt k1 σ v3) = (-59 : Int32) then (f2_worthBy_c9 k1 fu (0 : Int32) (v3 + 1) σ) else (f2_worthBy_c9 k1 fu (1 : Int32) (v3 + 1) σ)))
def f2_worthBy (k1 : Nat) (σ : SI) : Int32 × SI := let s0 := sp σ 13 4 (0 : Int32); (f2_worthBy_c9 k1 ((Int32.toInt (f1_size k1 s0) - Int32.toInt (0 : Int32)).toNat + 1) (0 : Int32) (0 : Int32) s0)
theorem w_f2_worthBy_c9 {k1 : Nat} (a : Nat) (h0 : a ≠ 13) (h1 : a ≠ 15) : ∀ (fu : Nat) (v2 : Int32) (v3 : Int32) (σ : SI), (f2_worthBy_c9 k1 fu v2 v3 σ).2 a = σ a := by
  intro fu
  induction fu with
  | zero => intros; rfl
  | succ fu ih =>
    intro v2 v3 σ
    unfold f2_worthBy_c9
    (repeat' split) <;> (first | rfl | (simp only [sp_n, su_n, ne_eq, not_false_eq_true, h0, h1, w_f2_pop, w_f2_push, w_f2_work, ih]; done) | (simp [sp_n, su_n, ne_eq, not_false_eq_true, h0, h1, w_f2_pop, w_f2_push, w_f2_work, ih]; done))
theorem w_f2_worthBy {k1 : Nat} (σ : SI) (a : Nat) (h0 : a ≠ 13) (h1 : a ≠ 15) : (f2_worthBy k1 σ).2 a = σ a := by
  unfold f2_worthBy
  (repeat' split) <;> (first | rfl | (simp only [sp_n, su_n, ne_eq, not_false_eq_true, h0, h1, w_f2_pop, w_f2_push, w_f2_work, w_f2_worthBy_c9]; done) | (simp [sp_n, su_n, ne_eq, not_false_eq_true, h0, h1, w_f2_pop, w_f2_push, w_f2_work, w_f2_worthBy_c9]; done))
set_option maxHeartbeats 4000000 in
set_option maxRecDepth 100000 in
theorem c2_worthBy_c9 {l : Launch} {p : Program} {e : Env} {s : State} {m : MethodId} {args : Array Value} {below : List Frame} {meth : Method} {c : Code} {G : GT} (X : CX p s m args meth c cX2_worthBy RX2 5 (some .int) G) {k1 : Nat} (hk1 : isLaw k1) {E : Int32 × SI} (τ : SL) : ∀ (fu : Nat) (v2 : Int32) (v3 : Int32) (σ : SI) (H : Heap) (locs : List Loc) (ls : Array Slot), IX G s H locs σ τ → lv_has ls 5 [(0, .ref (G.2.1 13)), (1, .ref (G.2.1 k1)), (2, .int v2), (3, .int v3)] → (Int32.toInt (f1_size k1 σ) - Int32.toInt v3).toNat < fu → E = (f2_worthBy_c9 k1 fu v2 v3 σ) → W p l e (rmN 3) s m args below meth c H locs 0 0 (MQ below ((Qi G (Ei E.1 E.2 τ)) s.heap.size) args s 0 0 (AW G s.heap.size)) (F0 m 9 ls []) := by
  intro fu
  induction fu with
  | zero =>
    intro v2 v3 σ H locs ls I hl  hm hE
    exact absurd hm (Nat.not_lt_zero _)
  | succ fu ih =>
    intro v2 v3 σ H locs ls I hl  hm hE
    refine lv_iload_n X.1 X.2.1 dX2_worthBy_9 rfl (lv_at hl 3 rfl) ?_
    refine lv_aload_n X.1 X.2.1 dX2_worthBy_10 rfl (lv_at hl 1 rfl) ?_
    refine r_ei I (r_runV X I pk_X1_size (c1_size l G (k := k1) hk1 _ _) lm_X2_66 (Nat.lt_of_le_of_lt (Nat.add_le_add_left (show 0 ≤ 1 by decide) k1) hk1.1) (cl_1 hk1.2.1) rfl rfl rfl hl.1 rfl (Nat.le_of_ble_eq_true rfl) dX2_worthBy_11 ⟨Nat.le_of_ble_eq_true rfl, Nat.le_of_ble_eq_true rfl⟩ ⟨Nat.le_refl 0, Nat.le_refl 0⟩) (fun H locs I => ?_)
    refine lv_icmp_ge (tgt := 106) X.1 X.2.1 dX2_worthBy_14 (by decide) (fun c_1 => ?_) (fun c_1 => ?_)
    · skip
      refine lv_iconst (v := 0) X.1 X.2.1 dX2_worthBy_106 (by decide) ?_
      have h9 := hE.trans ((if_pos c_1).trans rfl)
      exact r_iret X I (e_i (congrArg Prod.fst h9).symm (congrArg Prod.snd h9).symm rfl) dX2_worthBy_107
    · skip
      refine lv_aload_n X.1 X.2.1 dX2_worthBy_17 rfl (lv_at hl 1 rfl) ?_
      refine lv_iload_n X.1 X.2.1 dX2_worthBy_18 rfl (lv_at hl 3 rfl) ?_
      refine r_ei I (r_runV X I pk_X1_signAt (c1_signAt l G (k := k1) hk1 _ _ _) lm_X2_70 (Nat.lt_of_le_of_lt (Nat.add_le_add_left (show 0 ≤ 1 by decide) k1) hk1.1) (cl_1 hk1.2.1) rfl rfl rfl hl.1 rfl (Nat.le_of_ble_eq_true rfl) dX2_worthBy_19 ⟨Nat.le_of_ble_eq_true rfl, Nat.le_of_ble_eq_true rfl⟩ ⟨Nat.le_refl 0, Nat.le_refl 0⟩) (fun H locs I => ?_)
      refine lv_istore (lv' := [(4, .int _), (0, .ref _), (1, .ref _), (2, .int _), (3, .int _)]) X.1 X.2.1 dX2_worthBy_22 hl (by decide) rfl (fun ls hl => ?_)
      refine lv_iload_n X.1 X.2.1 dX2_worthBy_24 rfl (lv_at hl 3 rfl) ?_
      refine lv_if_eq (tgt := 44) X.1 X.2.1 dX2_worthBy_25 (by decide) (fun c_2 => ?_) (fun c_2 => ?_)
      · skip
        refine lv_iload X.1 X.2.1 dX2_worthBy_44 (lv_at hl 0 rfl) ?_
        refine lv_bipush (v := (-59)) X.1 X.2.1 dX2_worthBy_46 (by decide) ?_
        refine lv_icmp_ne (tgt := 56) X.1 X.2.1 dX2_worthBy_48 (by decide) (fun c_3 => ?_) (fun c_3 => ?_)
        · skip
          refine lv_iload X.1 X.2.1 dX2_worthBy_56 (lv_at hl 0 rfl) ?_
          refine lv_bipush (v := (-63)) X.1 X.2.1 dX2_worthBy_58 (by decide) ?_
          refine lv_icmp_ne (tgt := 79) X.1 X.2.1 dX2_worthBy_60 (by decide) (fun c_4 => ?_) (fun c_4 => ?_)
          · skip
            refine lv_iload X.1 X.2.1 dX2_worthBy_79 (lv_at hl 0 rfl) ?_
            refine lv_if_lt (tgt := 93) X.1 X.2.1 dX2_worthBy_81 (by decide) (fun c_5 => ?_) (fun c_5 => ?_)
            · skip
              refine lv_aload_n X.1 X.2.1 dX2_worthBy_93 rfl (lv_at hl 1 rfl) ?_
              refine lv_iload X.1 X.2.1 dX2_worthBy_94 (lv_at hl 0 rfl) ?_
              refine lv_ineg X.1 X.2.1 dX2_worthBy_96 ?_
              refine r_ev I (r_runV X I pk_X2_work (c2_work l G _ _ _) lm_X2_81 (by decide) (cl_2 rfl) rfl rfl rfl hl.1 rfl (Nat.le_of_ble_eq_true rfl) dX2_worthBy_97 ⟨Nat.le_of_ble_eq_true rfl, Nat.le_of_ble_eq_true rfl⟩ ⟨Nat.le_refl 0, Nat.le_refl 0⟩) (fun H locs I => ?_)
              refine lv_iinc (v := _ + 1) (lv' := [(3, .int _), (4, .int _), (0, .ref _), (1, .ref _), (2, .int _)]) X.1 X.2.1 dX2_worthBy_100 hl (k := 4) rfl rfl (by decide) rfl (fun ls hl => ?_)
              refine lv_goto (tgt := 9) X.1 X.2.1 dX2_worthBy_103 (by decide) ?_
              exact ih _ _ _ _ _ _ I (lv_sub hl [2, 3, 4, 0] rfl) (Nat.lt_of_lt_of_le (dec_c (by first | rfl | simp [f1_size, w_f2_pop, w_f2_push, w_f2_work, sp_n, show k1 ≠ 13 from fun h => by subst h; exact absurd hk1.2.1 (by decide), show k1 ≠ 15 from fun h => by subst h; exact absurd hk1.2.1 (by decide)]) (up_dec c_1)) (Nat.le_of_lt_succ hm)) (hE.trans ((if_neg c_1).trans ((if_pos c_2).trans ((if_neg c_3).trans ((if_neg c_4).trans ((if_pos c_5).trans rfl))))))
            · skip
              refine lv_aload_n X.1 X.2.1 dX2_worthBy_84 rfl (lv_at hl 1 rfl) ?_
              refine lv_iload X.1 X.2.1 dX2_worthBy_85 (lv_at hl 0 rfl) ?_
              refine r_ev I (r_runV X I pk_X2_push (c2_push l G _ _ _) lm_X2_77 (by decide) (cl_2 rfl) rfl rfl rfl hl.1 rfl (Nat.le_of_ble_eq_true rfl) dX2_worthBy_87 ⟨Nat.le_of_ble_eq_true rfl, Nat.le_of_ble_eq_true rfl⟩ ⟨Nat.le_refl 0, Nat.le_refl 0⟩) (fun H locs I => ?_)
              refine lv_goto (tgt := 100) X.1 X.2.1 dX2_worthBy_90 (by decide) ?_
              refine lv_iinc (v := _ + 1) (lv' := [(3, .int _), (4, .int _), (0, .ref _), (1, .ref _), (2, .int _)]) X.1 X.2.1 dX2_worthBy_100 hl (k := 4) rfl rfl (by decide) rfl (fun ls hl => ?_)
              refine lv_goto (tgt := 9) X.1 X.2.1 dX2_worthBy_103 (by decide) ?_
              exact ih _ _ _ _ _ _ I (lv_sub hl [2, 3, 4, 0] rfl) (Nat.lt_of_lt_of_le (dec_c (by first | rfl | simp [f1_size, w_f2_pop, w_f2_push, w_f2_work, sp_n, show k1 ≠ 13 from fun h => by subst h; exact absurd hk1.2.1 (by decide), show k1 ≠ 15 from fun h => by subst h; exact absurd hk1.2.1 (by decide)]) (up_dec c_1)) (Nat.le_of_lt_succ hm)) (hE.trans ((if_neg c_1).trans ((if_pos c_2).trans ((if_neg c_3).trans ((if_neg c_4).trans ((if_neg c_5).trans rfl))))))
          · skip
            refine lv_aload_n X.1 X.2.1 dX2_worthBy_63 rfl (lv_at hl 1 rfl) ?_
            refine r_ei I (r_runV X I pk_X2_pop (c2_pop l G _ _) lm_X2_74 (by decide) (cl_2 rfl) rfl rfl rfl hl.1 rfl (Nat.le_of_ble_eq_true rfl) dX2_worthBy_64 ⟨Nat.le_of_ble_eq_true rfl, Nat.le_of_ble_eq_true rfl⟩ ⟨Nat.le_refl 0, Nat.le_refl 0⟩) (fun H locs I => ?_)
            refine lv_if_ne (tgt := 74) X.1 X.2.1 dX2_worthBy_67 (by decide) (fun c_6 => ?_) (fun c_6 => ?_)
            · skip
              refine lv_iconst (v := 0) X.1 X.2.1 dX2_worthBy_74 (by decide) ?_
              refine lv_istore_n (lv' := [(2, .int _), (4, .int _), (0, .ref _), (1, .ref _), (3, .int _)]) X.1 X.2.1 dX2_worthBy_75 rfl hl (by decide) rfl (fun ls hl => ?_)
              refine lv_goto (tgt := 100) X.1 X.2.1 dX2_worthBy_76 (by decide) ?_
              refine lv_iinc (v := _ + 1) (lv' := [(3, .int _), (2, .int _), (4, .int _), (0, .ref _), (1, .ref _)]) X.1 X.2.1 dX2_worthBy_100 hl (k := 4) rfl rfl (by decide) rfl (fun ls hl => ?_)
              refine lv_goto (tgt := 9) X.1 X.2.1 dX2_worthBy_103 (by decide) ?_
              exact ih _ _ _ _ _ _ I (lv_sub hl [3, 4, 1, 0] rfl) (Nat.lt_of_lt_of_le (dec_c (by first | rfl | simp [f1_size, w_f2_pop, w_f2_push, w_f2_work, sp_n, show k1 ≠ 13 from fun h => by subst h; exact absurd hk1.2.1 (by decide), show k1 ≠ 15 from fun h => by subst h; exact absurd hk1.2.1 (by decide)]) (up_dec c_1)) (Nat.le_of_lt_succ hm)) (hE.trans ((if_neg c_1).trans ((if_pos c_2).trans ((if_neg c_3).trans ((if_pos c_4).trans ((if_neg c_6).trans rfl))))))
            · skip
              refine lv_iconst (v := 1) X.1 X.2.1 dX2_worthBy_70 (by decide) ?_
              refine lv_goto (tgt := 75) X.1 X.2.1 dX2_worthBy_71 (by decide) ?_
              refine lv_istore_n (lv' := [(2, .int _), (4, .int _), (0, .ref _), (1, .ref _), (3, .int _)]) X.1 X.2.1 dX2_worthBy_75 rfl hl (by decide) rfl (fun ls hl => ?_)
              refine lv_goto (tgt := 100) X.1 X.2.1 dX2_worthBy_76 (by decide) ?_
              refine lv_iinc (v := _ + 1) (lv' := [(3, .int _), (2, .int _), (4, .int _), (0, .ref _), (1, .ref _)]) X.1 X.2.1 dX2_worthBy_100 hl (k := 4) rfl rfl (by decide) rfl (fun ls hl => ?_)
              refine lv_goto (tgt := 9) X.1 X.2.1 dX2_worthBy_103 (by decide) ?_
              exact ih _ _ _ _ _ _ I (lv_sub hl [3, 4, 1, 0] rfl) (Nat.lt_of_lt_of_le (dec_c (by first | rfl | simp [f1_size, w_f2_pop, w_f2_push, w_f2_work, sp_n, show k1 ≠ 13 from fun h => by subst h; exact absurd hk1.2.1 (by decide), show k1 ≠ 15 from fun h => by subst h; exact absurd hk1.2.1 (by decide)]) (up_dec c_1)) (Nat.le_of_lt_succ hm)) (hE.trans ((if_neg c_1).trans ((if_pos c_2).trans ((if_neg c_3).trans ((if_pos c_4).trans ((if_pos c_6).trans rfl))))))
        · skip
          refine lv_aload_n X.1 X.2.1 dX2_worthBy_51 rfl (lv_at hl 1 rfl) ?_
          refine r_ei I (r_runV X I pk_X2_pop (c2_pop l G _ _) lm_X2_74 (by decide) (cl_2 rfl) rfl rfl rfl hl.1 rfl (Nat.le_of_ble_eq_true rfl) dX2_worthBy_52 ⟨Nat.le_of_ble_eq_true rfl, Nat.le_of_ble_eq_true rfl⟩ ⟨Nat.le_refl 0, Nat.le_refl 0⟩) (fun H locs I => ?_)
          have h9 := hE.trans ((if_neg c_1).trans ((if_pos c_2).trans ((if_pos c_3).trans rfl)))
          exact r_iret X I (e_i (congrArg Prod.fst h9).symm (congrArg Prod.snd h9).symm rfl) dX2_worthBy_55
      · skip
        refine lv_iload X.1 X.2.1 dX2_worthBy_28 (lv_at hl 0 rfl) ?_
        refine lv_bipush (v := (-59)) X.1 X.2.1 dX2_worthBy_30 (by decide) ?_
        refine lv_icmp_eq (tgt := 39) X.1 X.2.1 dX2_worthBy_32 (by decide) (fun c_7 => ?_) (fun c_7 => ?_)
        · skip
          refine lv_iconst (v := 0) X.1 X.2.1 dX2_worthBy_39 (by decide) ?_
          refine lv_istore_n (lv' := [(2, .int _), (4, .int _), (0, .ref _), (1, .ref _), (3, .int _)]) X.1 X.2.1 dX2_worthBy_40 rfl hl (by decide) rfl (fun ls hl => ?_)
          refine lv_goto (tgt := 100) X.1 X.2.1 dX2_worthBy_41 (by decide) ?_
          refine lv_iinc (v := _ + 1) (lv' := [(3, .int _), (2, .int _), (4, .int _), (0, .ref _), (1, .ref _)]) X.1 X.2.1 dX2_worthBy_100 hl (k := 4) rfl rfl (by decide) rfl (fun ls hl => ?_)
          refine lv_goto (tgt := 9) X.1 X.2.1 dX2_worthBy_103 (by decide) ?_
          exact ih _ _ _ _ _ _ I (lv_sub hl [3, 4, 1, 0] rfl) (Nat.lt_of_lt_of_le (dec_c (by first | rfl | simp [f1_size, w_f2_pop, w_f2_push, w_f2_work, sp_n, show k1 ≠ 13 from fun h => by subst h; exact absurd hk1.2.1 (by decide), show k1 ≠ 15 from fun h => by subst h; exact absurd hk1.2.1 (by decide)]) (up_dec c_1)) (Nat.le_of_lt_succ hm)) (hE.trans ((if_neg c_1).trans ((if_neg c_2).trans ((if_pos c_7).trans rfl))))
        · skip
          refine lv_iconst (v := 1) X.1 X.2.1 dX2_worthBy_35 (by decide) ?_
          refine lv_goto (tgt := 40) X.1 X.2.1 dX2_worthBy_36 (by decide) ?_
          refine lv_istore_n (lv' := [(2, .int _), (4, .int _), (0, .ref _), (1, .ref _), (3, .int _)]) X.1 X.2.1 dX2_worthBy_40 rfl hl (by decide) rfl (fun ls hl => ?_)
          refine lv_goto (tgt := 100) X.1 X.2.1 dX2_worthBy_41 (by decide) ?_
          refine lv_iinc (v := _ + 1) (lv' := [(3, .int _), (2, .int _), (4, .int _), (0, .ref _), (1, .ref _)]) X.1 X.2.1 dX2_worthBy_100 hl (k := 4) rfl rfl (by decide) rfl (fun ls hl => ?_)
          refine lv_goto (tgt := 9) X.1 X.2.1 dX2_worthBy_103 (by decide) ?_
          exact ih _ _ _ _ _ _ I (lv_sub hl [3, 4, 1, 0] rfl) (Nat.lt_of_lt_of_le (dec_c (by first | rfl | simp [f1_size, w_f2_pop, w_f2_push, w_f2_work, sp_n, show k1 ≠ 13 from fun h => by subst h; exact absurd hk1.2.1 (by decide), show k1 ≠ 15 from fun h => by subst h; exact absurd hk1.2.1 (by decide)]) (up_dec c_1)) (Nat.le_of_lt_succ hm)) (hE.trans ((if_neg c_1).trans ((if_neg c_2).trans ((if_neg c_7).trans rfl))))
set_option maxHeartbeats 4000000 in
set_option maxRecDepth 100000 in
theorem c2_worthBy (l : Launch) (G : GT) {k1 : Nat} (hk1 : isLaw k1) (σ : SI) (τ : SL) : Mc l yX2_worthBy cX2_worthBy 5 (some .int) 3 G [.ref (G.2.1 13), .ref (G.2.1 k1)] σ τ (Qi G (Ei (f2_worthBy k1 σ).1 (f2_worthBy k1 σ).2 τ)) := by
  refine m_start (by decide +kernel) (Nat.le_of_ble_eq_true rfl) rfl (fun p e s m args below meth c ls X I hl => ?_)
  have hl : lv_has ls 5 [(0, .ref (G.2.1 13)), (1, .ref (G.2.1 k1))] := hl
  obtain ⟨E, hE⟩ : ∃ E, E = (f2_worthBy k1 σ) := ⟨_, rfl⟩
  rw [← hE]
  refine lv_iconst (v := 0) X.1 X.2.1 dX2_worthBy_0 (by decide) ?_
  refine lv_istore_n (lv' := [(2, .int _), (0, .ref _), (1, .ref _)]) X.1 X.2.1 dX2_worthBy_1 rfl hl (by decide) rfl (fun ls hl => ?_)
  refine lv_aload_n X.1 X.2.1 dX2_worthBy_2 rfl (lv_at hl 1 rfl) ?_
  refine lv_iconst (v := 0) X.1 X.2.1 dX2_worthBy_3 (by decide) ?_
  refine p2_4 X I (k := 13) (by decide) rfl lf_X2_63 dX2_worthBy_4 (fun H locs I => ?_)
  refine lv_iconst (v := 0) X.1 X.2.1 dX2_worthBy_7 (by decide) ?_
  refine lv_istore_n (lv' := [(3, .int _), (2, .int _), (0, .ref _), (1, .ref _)]) X.1 X.2.1 dX2_worthBy_8 rfl hl (by decide) rfl (fun ls hl => ?_)
  exact c2_worthBy_c9 X hk1 _  _ _ _ _ _ _ _ I (lv_sub hl [2, 3, 1, 0] rfl) (Nat.lt_succ_self _) (hE.trans (rfl))
def f2_standing (σ : SI) (x1 : Int32) (x2 : Bool) (x3 : Int32) (x4 : Int32) (x5 : Int32) (x6 : Int32) : Int32 × SI := oq (f2_lawAt (σ 13 3)) (if x2 = true then ((1 : Int32), σ) else (((x1 / (2 : Int32)) + (1 : Int32)), σ)) (fun o_1k => let s0 := sp σ 13 5 x1; if x2 = true then (let s7 := sp s0 13 6 (1 : Int32); let s8 := sp s7 13 7 x3; let s9 := sp s8 13 8 x4; let s10 := sp s9 13 9 x5; let s11 := sp s10 13 10 x6; let r12 := (f2_worthBy o_1k s11); ((f11_within (Int32.toInt64 r12.1) (0 : Int32) (60 : Int32)), r12.2)) else (let s1 := sp s0 13 6 (0 : Int32); let s2 := sp s1 13 7 x3; let s3 := sp s2 13 8 x4; let s4 := sp s3 13 9 x5; let s5 := sp s4 13 10 x6; let r6 := (f2_worthBy o_1k s5); ((f11_within (Int32.toInt64 r6.1) (0 : Int32) (60 : Int32)), r6.2)))
theorem w_f2_standing (σ : SI) (x1 : Int32) (x2 : Bool) (x3 : Int32) (x4 : Int32) (x5 : Int32) (x6 : Int32) (a : Nat) (h0 : a ≠ 13) (h1 : a ≠ 15) : (f2_standing σ x1 x2 x3 x4 x5 x6).2 a = σ a := by
  unfold f2_standing
  (repeat' split) <;> (first | rfl | (simp only [sp_n, su_n, ne_eq, not_false_eq_true, h0, h1, w_f2_worthBy]; done) | (simp [sp_n, su_n, ne_eq, not_false_eq_true, h0, h1, w_f2_worthBy]; done))
set_option maxHeartbeats 4000000 in
set_option maxRecDepth 100000 in
theorem c2_standing (l : Launch) (G : GT) (σ : SI) (τ : SL) (x1 : Int32) (x2 : Bool) (x3 : Int32) (x4 : Int32) (x5 : Int32) (x6 : Int32) : Mc l yX2_standing cX2_standing 8 (some .int) 4 G [.ref (G.2.1 13), .int x1, .int (b2i x2), .int x3, .int x4, .int x5, .int x6] σ τ (Qi G (Ei (f2_standing σ x1 x2 x3 x4 x5 x6).1 (f2_standing σ x1 x2 x3 x4 x5 x6).2 τ)) := by
  refine m_start (by decide +kernel) (Nat.le_of_ble_eq_true rfl) rfl (fun p e s m args below meth c ls X I hl => ?_)
  have hl : lv_has ls 8 [(0, .ref (G.2.1 13)), (1, .int x1), (2, .int (b2i x2)), (3, .int x3), (4, .int x4), (5, .int x5), (6, .int x6)] := hl
  obtain ⟨E, hE⟩ : ∃ E, E = (f2_standing σ x1 x2 x3 x4 x5 x6) := ⟨_, rfl⟩
  rw [← hE]
  refine lv_aload_n X.1 X.2.1 dX2_standing_0 rfl (lv_at hl 0 rfl) ?_
  refine lv_aload_n X.1 X.2.1 dX2_standing_1 rfl (lv_at hl 0 rfl) ?_
  refine g2_3 X I (k := 13) (by decide) rfl lf_X2_22 dX2_standing_2 ?_
  refine r_eqs I (r_runV X I pk_X2_lawAt (c2_lawAt l G _ _ _) lm_X2_29 (by decide) (cl_2 rfl) rfl rfl rfl hl.1 rfl (Nat.le_of_ble_eq_true rfl) dX2_standing_5 ⟨Nat.le_of_ble_eq_true rfl, Nat.le_of_ble_eq_true rfl⟩ ⟨Nat.le_refl 0, Nat.le_refl 0⟩) (fun o_1 H locs I => ?_) (fun o_1k ho_1 H locs I => ?_)
  · skip
    refine lv_astoreN (lv' := [(7, .null), (0, .ref _), (1, .int _), (2, .int _), (3, .int _), (4, .int _), (5, .int _), (6, .int _)]) X.1 X.2.1 dX2_standing_8 hl (by decide) rfl (fun ls hl => ?_)
    refine lv_aload_nN X.1 X.2.1 dX2_standing_10 rfl (lv_at hl 0 rfl) ?_
    refine lv_ifnonnullN X.1 X.2.1 dX2_standing_12 ?_
    refine lv_iload_n X.1 X.2.1 dX2_standing_15 rfl (lv_at hl 3 rfl) ?_
    refine lv_if_eq (tgt := 23) X.1 X.2.1 dX2_standing_16 (by decide) (fun c_2 => ?_) (fun c_2 => ?_)
    · skip
      refine lv_iload_n X.1 X.2.1 dX2_standing_23 rfl (lv_at hl 2 rfl) ?_
      refine lv_iconst (v := 2) X.1 X.2.1 dX2_standing_24 (by decide) ?_
      refine lv_idiv X.1 X.2.1 dX2_standing_25 (by decide) ?_
      refine lv_iconst (v := 1) X.1 X.2.1 dX2_standing_26 (by decide) ?_
      refine lv_iadd X.1 X.2.1 dX2_standing_27 ?_
      have h9 := hE.trans ((oq_none o_1).trans ((if_neg (b2i_n c_2)).trans rfl))
      exact r_iret X I (e_i (congrArg Prod.fst h9).symm (congrArg Prod.snd h9).symm rfl) dX2_standing_28
    · skip
      refine lv_iconst (v := 1) X.1 X.2.1 dX2_standing_19 (by decide) ?_
      refine lv_goto (tgt := 28) X.1 X.2.1 dX2_standing_20 (by decide) ?_
      have h9 := hE.trans ((oq_none o_1).trans ((if_pos (b2i_y c_2)).trans rfl))
      exact r_iret X I (e_i (congrArg Prod.fst h9).symm (congrArg Prod.snd h9).symm rfl) dX2_standing_28
  · skip
    have hko_1 := law_fact ho_1
    refine lv_astore (lv' := [(7, .ref _), (0, .ref _), (1, .int _), (2, .int _), (3, .int _), (4, .int _), (5, .int _), (6, .int _)]) X.1 X.2.1 dX2_standing_8 hl (by decide) rfl (fun ls hl => ?_)
    refine lv_aload X.1 X.2.1 dX2_standing_10 (lv_at hl 0 rfl) ?_
    refine lv_ifnonnull (tgt := 29) X.1 X.2.1 dX2_standing_12 (by decide) ?_
    refine lv_aload_n X.1 X.2.1 dX2_standing_29 rfl (lv_at hl 1 rfl) ?_
    refine lv_iload_n X.1 X.2.1 dX2_standing_30 rfl (lv_at hl 2 rfl) ?_
    refine p2_5 X I (k := 13) (by decide) rfl lf_X2_37 dX2_standing_31 (fun H locs I => ?_)
    refine lv_aload_n X.1 X.2.1 dX2_standing_34 rfl (lv_at hl 1 rfl) ?_
    refine lv_iload_n X.1 X.2.1 dX2_standing_35 rfl (lv_at hl 3 rfl) ?_
    refine lv_if_eq (tgt := 43) X.1 X.2.1 dX2_standing_36 (by decide) (fun c_3 => ?_) (fun c_3 => ?_)
    · skip
      refine lv_iconst (v := 0) X.1 X.2.1 dX2_standing_43 (by decide) ?_
      refine p2_6 X I (k := 13) (by decide) rfl lf_X2_40 dX2_standing_44 (fun H locs I => ?_)
      refine lv_aload_n X.1 X.2.1 dX2_standing_47 rfl (lv_at hl 1 rfl) ?_
      refine lv_iload_n X.1 X.2.1 dX2_standing_48 rfl (lv_at hl 4 rfl) ?_
      refine p2_7 X I (k := 13) (by decide) rfl lf_X2_43 dX2_standing_49 (fun H locs I => ?_)
      refine lv_aload_n X.1 X.2.1 dX2_standing_52 rfl (lv_at hl 1 rfl) ?_
      refine lv_iload X.1 X.2.1 dX2_standing_53 (lv_at hl 5 rfl) ?_
      refine p2_8 X I (k := 13) (by decide) rfl lf_X2_46 dX2_standing_55 (fun H locs I => ?_)
      refine lv_aload_n X.1 X.2.1 dX2_standing_58 rfl (lv_at hl 1 rfl) ?_
      refine lv_iload X.1 X.2.1 dX2_standing_59 (lv_at hl 6 rfl) ?_
      refine p2_9 X I (k := 13) (by decide) rfl lf_X2_49 dX2_standing_61 (fun H locs I => ?_)
      refine lv_aload_n X.1 X.2.1 dX2_standing_64 rfl (lv_at hl 1 rfl) ?_
      refine lv_iload X.1 X.2.1 dX2_standing_65 (lv_at hl 7 rfl) ?_
      refine p2_10 X I (k := 13) (by decide) rfl lf_X2_52 dX2_standing_67 (fun H locs I => ?_)
      refine lv_aload_n X.1 X.2.1 dX2_standing_70 rfl (lv_at hl 1 rfl) ?_
      refine lv_aload X.1 X.2.1 dX2_standing_71 (lv_at hl 0 rfl) ?_
      refine r_ei I (r_runV X I pk_X2_worthBy (c2_worthBy l G (k1 := o_1k) hko_1 _ _) lm_X2_55 (by decide) (cl_2 rfl) rfl rfl rfl hl.1 rfl (Nat.le_of_ble_eq_true rfl) dX2_standing_73 ⟨Nat.le_of_ble_eq_true rfl, Nat.le_of_ble_eq_true rfl⟩ ⟨Nat.le_refl 0, Nat.le_refl 0⟩) (fun H locs I => ?_)
      refine lv_i2l X.1 X.2.1 dX2_standing_76 rfl ?_
      refine lv_iconst (v := 0) X.1 X.2.1 dX2_standing_77 (by decide) ?_
      refine lv_bipush (v := 60) X.1 X.2.1 dX2_standing_78 (by decide) ?_
      refine r_ei I (r_runN X I pk_X11_within (c11_within l G _ _ _ _ _) (by decide +kernel) rfl hl.1 rfl (Nat.le_of_ble_eq_true rfl) dX2_standing_80 ⟨Nat.le_of_ble_eq_true rfl, Nat.le_of_ble_eq_true rfl⟩ ⟨Nat.le_refl 0, Nat.le_refl 0⟩) (fun H locs I => ?_)
      have h9 := hE.trans ((oq_some ho_1).trans ((if_neg (b2i_n c_3)).trans rfl))
      exact r_iret X I (e_i (congrArg Prod.fst h9).symm (congrArg Prod.snd h9).symm rfl) dX2_standing_83
    · skip
      refine lv_iconst (v := 1) X.1 X.2.1 dX2_standing_39 (by decide) ?_
      refine lv_goto (tgt := 44) X.1 X.2.1 dX2_standing_40 (by decide) ?_
      refine p2_6 X I (k := 13) (by decide) rfl lf_X2_40 dX2_standing_44 (fun H locs I => ?_)
      refine lv_aload_n X.1 X.2.1 dX2_standing_47 rfl (lv_at hl 1 rfl) ?_
      refine lv_iload_n X.1 X.2.1 dX2_standing_48 rfl (lv_at hl 4 rfl) ?_
      refine p2_7 X I (k := 13) (by decide) rfl lf_X2_43 dX2_standing_49 (fun H locs I => ?_)
      refine lv_aload_n X.1 X.2.1 dX2_standing_52 rfl (lv_at hl 1 rfl) ?_
      refine lv_iload X.1 X.2.1 dX2_standing_53 (lv_at hl 5 rfl) ?_
      refine p2_8 X I (k := 13) (by decide) rfl lf_X2_46 dX2_standing_55 (fun H locs I => ?_)
      refine lv_aload_n X.1 X.2.1 dX2_standing_58 rfl (lv_at hl 1 rfl) ?_
      refine lv_iload X.1 X.2.1 dX2_standing_59 (lv_at hl 6 rfl) ?_
      refine p2_9 X I (k := 13) (by decide) rfl lf_X2_49 dX2_standing_61 (fun H locs I => ?_)
      refine lv_aload_n X.1 X.2.1 dX2_standing_64 rfl (lv_at hl 1 rfl) ?_
      refine lv_iload X.1 X.2.1 dX2_standing_65 (lv_at hl 7 rfl) ?_
      refine p2_10 X I (k := 13) (by decide) rfl lf_X2_52 dX2_standing_67 (fun H locs I => ?_)
      refine lv_aload_n X.1 X.2.1 dX2_standing_70 rfl (lv_at hl 1 rfl) ?_
      refine lv_aload X.1 X.2.1 dX2_standing_71 (lv_at hl 0 rfl) ?_
      refine r_ei I (r_runV X I pk_X2_worthBy (c2_worthBy l G (k1 := o_1k) hko_1 _ _) lm_X2_55 (by decide) (cl_2 rfl) rfl rfl rfl hl.1 rfl (Nat.le_of_ble_eq_true rfl) dX2_standing_73 ⟨Nat.le_of_ble_eq_true rfl, Nat.le_of_ble_eq_true rfl⟩ ⟨Nat.le_refl 0, Nat.le_refl 0⟩) (fun H locs I => ?_)
      refine lv_i2l X.1 X.2.1 dX2_standing_76 rfl ?_
      refine lv_iconst (v := 0) X.1 X.2.1 dX2_standing_77 (by decide) ?_
      refine lv_bipush (v := 60) X.1 X.2.1 dX2_standing_78 (by decide) ?_
      refine r_ei I (r_runN X I pk_X11_within (c11_within l G _ _ _ _ _) (by decide +kernel) rfl hl.1 rfl (Nat.le_of_ble_eq_true rfl) dX2_standing_80 ⟨Nat.le_of_ble_eq_true rfl, Nat.le_of_ble_eq_true rfl⟩ ⟨Nat.le_refl 0, Nat.le_refl 0⟩) (fun H locs I => ?_)
      have h9 := hE.trans ((oq_some ho_1).trans ((if_pos (b2i_y c_3)).trans rfl))
      exact r_iret X I (e_i (congrArg Prod.fst h9).symm (congrArg Prod.snd h9).symm rfl) dX2_standing_83
def f3_draft : Option Nat := (some 8)
set_option maxHeartbeats 4000000 in
set_option maxRecDepth 100000 in
theorem c3_draft (l : Launch) (G : GT) (σ : SI) (τ : SL) : Mc l yX3_draft cX3_draft 1 (some (.object "SaintCarried$Law")) 0 G [.ref (G.2.1 7)] σ τ (Qq G (Eq1 (f3_draft.map G.2.1) σ τ)) := by
  refine m_start (by decide +kernel) (Nat.le_of_ble_eq_true rfl) rfl (fun p e s m args below meth c ls X I hl => ?_)
  have hl : lv_has ls 1 [(0, .ref (G.2.1 7))] := hl
  obtain ⟨E, hE⟩ : ∃ E, E = f3_draft := ⟨_, rfl⟩
  rw [← hE]
  refine lv_aload_n X.1 X.2.1 dX3_draft_0 rfl (lv_at hl 0 rfl) ?_
  refine g3_1 X I (k := 7) (by decide) rfl lf_X3_18 dX3_draft_1 ?_
  have h9 := hE
  exact r_qret (v := some _) X I (Or.inl ⟨_, rfl⟩) (e_q (congrArg (Option.map G.2.1) (h9)).symm rfl rfl) dX3_draft_4
def f3_isRelation (x0 : Int32) : Bool := if x0 = (61 : Int32) then true else (if x0 = (60 : Int32) then true else (if x0 = (62 : Int32) then true else false))
set_option maxHeartbeats 4000000 in
set_option maxRecDepth 100000 in
theorem c3_isRelation (l : Launch) (G : GT) (σ : SI) (τ : SL) (x0 : Int32) : Mc l yX3_isRelation cX3_isRelation 1 (some .boolean) 0 G [.int x0] σ τ (Qi G (Ei (b2i (f3_isRelation x0)) σ τ)) := by
  refine m_start (by decide +kernel) (Nat.le_of_ble_eq_true rfl) rfl (fun p e s m args below meth c ls X I hl => ?_)
  have hl : lv_has ls 1 [(0, .int x0)] := hl
  obtain ⟨E, hE⟩ : ∃ E, E = (f3_isRelation x0) := ⟨_, rfl⟩
  rw [← hE]
  refine lv_iload_n X.1 X.2.1 dX3_isRelation_0 rfl (lv_at hl 0 rfl) ?_
  refine lv_bipush (v := 61) X.1 X.2.1 dX3_isRelation_1 (by decide) ?_
  refine lv_icmp_eq (tgt := 18) X.1 X.2.1 dX3_isRelation_3 (by decide) (fun c_1 => ?_) (fun c_1 => ?_)
  · skip
    refine lv_iconst (v := 1) X.1 X.2.1 dX3_isRelation_18 (by decide) ?_
    refine lv_goto (tgt := 23) X.1 X.2.1 dX3_isRelation_19 (by decide) ?_
    have h9 := hE.trans ((if_pos c_1).trans rfl)
    exact r_zret X I rfl (e_i (congrArg b2i (h9)).symm rfl rfl) dX3_isRelation_23
  · skip
    refine lv_iload_n X.1 X.2.1 dX3_isRelation_6 rfl (lv_at hl 0 rfl) ?_
    refine lv_bipush (v := 60) X.1 X.2.1 dX3_isRelation_7 (by decide) ?_
    refine lv_icmp_eq (tgt := 18) X.1 X.2.1 dX3_isRelation_9 (by decide) (fun c_2 => ?_) (fun c_2 => ?_)
    · skip
      refine lv_iconst (v := 1) X.1 X.2.1 dX3_isRelation_18 (by decide) ?_
      refine lv_goto (tgt := 23) X.1 X.2.1 dX3_isRelation_19 (by decide) ?_
      have h9 := hE.trans ((if_neg c_1).trans ((if_pos c_2).trans rfl))
      exact r_zret X I rfl (e_i (congrArg b2i (h9)).symm rfl rfl) dX3_isRelation_23
    · skip
      refine lv_iload_n X.1 X.2.1 dX3_isRelation_12 rfl (lv_at hl 0 rfl) ?_
      refine lv_bipush (v := 62) X.1 X.2.1 dX3_isRelation_13 (by decide) ?_
      refine lv_icmp_ne (tgt := 22) X.1 X.2.1 dX3_isRelation_15 (by decide) (fun c_3 => ?_) (fun c_3 => ?_)
      · skip
        refine lv_iconst (v := 0) X.1 X.2.1 dX3_isRelation_22 (by decide) ?_
        have h9 := hE.trans ((if_neg c_1).trans ((if_neg c_2).trans ((if_neg c_3).trans rfl)))
        exact r_zret X I rfl (e_i (congrArg b2i (h9)).symm rfl rfl) dX3_isRelation_23
      · skip
        refine lv_iconst (v := 1) X.1 X.2.1 dX3_isRelation_18 (by decide) ?_
        refine lv_goto (tgt := 23) X.1 X.2.1 dX3_isRelation_19 (by decide) ?_
        have h9 := hE.trans ((if_neg c_1).trans ((if_neg c_2).trans ((if_pos c_3).trans rfl)))
        exact r_zret X I rfl (e_i (congrArg b2i (h9)).symm rfl rfl) dX3_isRelation_23
def f11_isDigit (x0 : Int32) : Bool := if x0 < (48 : Int32) then false else (if (57 : Int32) < x0 then false else true)
set_option maxHeartbeats 4000000 in
set_option maxRecDepth 100000 in
theorem c11_isDigit (l : Launch) (G : GT) (σ : SI) (τ : SL) (x0 : Int32) : Mc l yX11_isDigit cX11_isDigit 1 (some .boolean) 0 G [.int x0] σ τ (Qi G (Ei (b2i (f11_isDigit x0)) σ τ)) := by
  refine m_start (by decide +kernel) (Nat.le_of_ble_eq_true rfl) rfl (fun p e s m args below meth c ls X I hl => ?_)
  have hl : lv_has ls 1 [(0, .int x0)] := hl
  obtain ⟨E, hE⟩ : ∃ E, E = (f11_isDigit x0) := ⟨_, rfl⟩
  rw [← hE]
  refine lv_iload_n X.1 X.2.1 dX11_isDigit_0 rfl (lv_at hl 0 rfl) ?_
  refine lv_bipush (v := 48) X.1 X.2.1 dX11_isDigit_1 (by decide) ?_
  refine lv_icmp_lt (tgt := 16) X.1 X.2.1 dX11_isDigit_3 (by decide) (fun c_1 => ?_) (fun c_1 => ?_)
  · skip
    refine lv_iconst (v := 0) X.1 X.2.1 dX11_isDigit_16 (by decide) ?_
    have h9 := hE.trans ((if_pos c_1).trans rfl)
    exact r_zret X I rfl (e_i (congrArg b2i (h9)).symm rfl rfl) dX11_isDigit_17
  · skip
    refine lv_iload_n X.1 X.2.1 dX11_isDigit_6 rfl (lv_at hl 0 rfl) ?_
    refine lv_bipush (v := 57) X.1 X.2.1 dX11_isDigit_7 (by decide) ?_
    refine lv_icmp_gt (tgt := 16) X.1 X.2.1 dX11_isDigit_9 (by decide) (fun c_2 => ?_) (fun c_2 => ?_)
    · skip
      refine lv_iconst (v := 0) X.1 X.2.1 dX11_isDigit_16 (by decide) ?_
      have h9 := hE.trans ((if_neg c_1).trans ((if_pos c_2).trans rfl))
      exact r_zret X I rfl (e_i (congrArg b2i (h9)).symm rfl rfl) dX11_isDigit_17
    · skip
      refine lv_iconst (v := 1) X.1 X.2.1 dX11_isDigit_12 (by decide) ?_
      refine lv_goto (tgt := 17) X.1 X.2.1 dX11_isDigit_13 (by decide) ?_
      have h9 := hE.trans ((if_neg c_1).trans ((if_neg c_2).trans rfl))
      exact r_zret X I rfl (e_i (congrArg b2i (h9)).symm rfl rfl) dX11_isDigit_17
def f3_isLetter (x0 : Int32) : Bool := if x0 = (103 : Int32) then true else (if x0 = (113 : Int32) then true else (if x0 = (116 : Int32) then true else (if x0 = (110 : Int32) then true else (if x0 = (100 : Int32) then true else (if x0 = (121 : Int32) then true else false)))))
set_option maxHeartbeats 4000000 in
set_option maxRecDepth 100000 in
theorem c3_isLetter (l : Launch) (G : GT) (σ : SI) (τ : SL) (x0 : Int32) : Mc l yX3_isLetter cX3_isLetter 1 (some .boolean) 0 G [.int x0] σ τ (Qi G (Ei (b2i (f3_isLetter x0)) σ τ)) := by
  refine m_start (by decide +kernel) (Nat.le_of_ble_eq_true rfl) rfl (fun p e s m args below meth c ls X I hl => ?_)
  have hl : lv_has ls 1 [(0, .int x0)] := hl
  obtain ⟨E, hE⟩ : ∃ E, E = (f3_isLetter x0) := ⟨_, rfl⟩
  rw [← hE]
  refine lv_iload_n X.1 X.2.1 dX3_isLetter_0 rfl (lv_at hl 0 rfl) ?_
  refine lv_bipush (v := 103) X.1 X.2.1 dX3_isLetter_1 (by decide) ?_
  refine lv_icmp_eq (tgt := 36) X.1 X.2.1 dX3_isLetter_3 (by decide) (fun c_1 => ?_) (fun c_1 => ?_)
  · skip
    refine lv_iconst (v := 1) X.1 X.2.1 dX3_isLetter_36 (by decide) ?_
    refine lv_goto (tgt := 41) X.1 X.2.1 dX3_isLetter_37 (by decide) ?_
    have h9 := hE.trans ((if_pos c_1).trans rfl)
    exact r_zret X I rfl (e_i (congrArg b2i (h9)).symm rfl rfl) dX3_isLetter_41
  · skip
    refine lv_iload_n X.1 X.2.1 dX3_isLetter_6 rfl (lv_at hl 0 rfl) ?_
    refine lv_bipush (v := 113) X.1 X.2.1 dX3_isLetter_7 (by decide) ?_
    refine lv_icmp_eq (tgt := 36) X.1 X.2.1 dX3_isLetter_9 (by decide) (fun c_2 => ?_) (fun c_2 => ?_)
    · skip
      refine lv_iconst (v := 1) X.1 X.2.1 dX3_isLetter_36 (by decide) ?_
      refine lv_goto (tgt := 41) X.1 X.2.1 dX3_isLetter_37 (by decide) ?_
      have h9 := hE.trans ((if_neg c_1).trans ((if_pos c_2).trans rfl))
      exact r_zret X I rfl (e_i (congrArg b2i (h9)).symm rfl rfl) dX3_isLetter_41
    · skip
      refine lv_iload_n X.1 X.2.1 dX3_isLetter_12 rfl (lv_at hl 0 rfl) ?_
      refine lv_bipush (v := 116) X.1 X.2.1 dX3_isLetter_13 (by decide) ?_
      refine lv_icmp_eq (tgt := 36) X.1 X.2.1 dX3_isLetter_15 (by decide) (fun c_3 => ?_) (fun c_3 => ?_)
      · skip
        refine lv_iconst (v := 1) X.1 X.2.1 dX3_isLetter_36 (by decide) ?_
        refine lv_goto (tgt := 41) X.1 X.2.1 dX3_isLetter_37 (by decide) ?_
        have h9 := hE.trans ((if_neg c_1).trans ((if_neg c_2).trans ((if_pos c_3).trans rfl)))
        exact r_zret X I rfl (e_i (congrArg b2i (h9)).symm rfl rfl) dX3_isLetter_41
      · skip
        refine lv_iload_n X.1 X.2.1 dX3_isLetter_18 rfl (lv_at hl 0 rfl) ?_
        refine lv_bipush (v := 110) X.1 X.2.1 dX3_isLetter_19 (by decide) ?_
        refine lv_icmp_eq (tgt := 36) X.1 X.2.1 dX3_isLetter_21 (by decide) (fun c_4 => ?_) (fun c_4 => ?_)
        · skip
          refine lv_iconst (v := 1) X.1 X.2.1 dX3_isLetter_36 (by decide) ?_
          refine lv_goto (tgt := 41) X.1 X.2.1 dX3_isLetter_37 (by decide) ?_
          have h9 := hE.trans ((if_neg c_1).trans ((if_neg c_2).trans ((if_neg c_3).trans ((if_pos c_4).trans rfl))))
          exact r_zret X I rfl (e_i (congrArg b2i (h9)).symm rfl rfl) dX3_isLetter_41
        · skip
          refine lv_iload_n X.1 X.2.1 dX3_isLetter_24 rfl (lv_at hl 0 rfl) ?_
          refine lv_bipush (v := 100) X.1 X.2.1 dX3_isLetter_25 (by decide) ?_
          refine lv_icmp_eq (tgt := 36) X.1 X.2.1 dX3_isLetter_27 (by decide) (fun c_5 => ?_) (fun c_5 => ?_)
          · skip
            refine lv_iconst (v := 1) X.1 X.2.1 dX3_isLetter_36 (by decide) ?_
            refine lv_goto (tgt := 41) X.1 X.2.1 dX3_isLetter_37 (by decide) ?_
            have h9 := hE.trans ((if_neg c_1).trans ((if_neg c_2).trans ((if_neg c_3).trans ((if_neg c_4).trans ((if_pos c_5).trans rfl)))))
            exact r_zret X I rfl (e_i (congrArg b2i (h9)).symm rfl rfl) dX3_isLetter_41
          · skip
            refine lv_iload_n X.1 X.2.1 dX3_isLetter_30 rfl (lv_at hl 0 rfl) ?_
            refine lv_bipush (v := 121) X.1 X.2.1 dX3_isLetter_31 (by decide) ?_
            refine lv_icmp_ne (tgt := 40) X.1 X.2.1 dX3_isLetter_33 (by decide) (fun c_6 => ?_) (fun c_6 => ?_)
            · skip
              refine lv_iconst (v := 0) X.1 X.2.1 dX3_isLetter_40 (by decide) ?_
              have h9 := hE.trans ((if_neg c_1).trans ((if_neg c_2).trans ((if_neg c_3).trans ((if_neg c_4).trans ((if_neg c_5).trans ((if_neg c_6).trans rfl))))))
              exact r_zret X I rfl (e_i (congrArg b2i (h9)).symm rfl rfl) dX3_isLetter_41
            · skip
              refine lv_iconst (v := 1) X.1 X.2.1 dX3_isLetter_36 (by decide) ?_
              refine lv_goto (tgt := 41) X.1 X.2.1 dX3_isLetter_37 (by decide) ?_
              have h9 := hE.trans ((if_neg c_1).trans ((if_neg c_2).trans ((if_neg c_3).trans ((if_neg c_4).trans ((if_neg c_5).trans ((if_pos c_6).trans rfl))))))
              exact r_zret X I rfl (e_i (congrArg b2i (h9)).symm rfl rfl) dX3_isLetter_41
def f7_fails (σ : SI) : Bool × SI := let s0 := sp σ 1 3 (σ 1 2); (false, s0)
theorem w_f7_fails (σ : SI) (a : Nat) (h0 : a ≠ 1) : (f7_fails σ).2 a = σ a := by
  unfold f7_fails
  (repeat' split) <;> (first | rfl | (simp only [sp_n, su_n, ne_eq, not_false_eq_true, h0]; done) | (simp [sp_n, su_n, ne_eq, not_false_eq_true, h0]; done))
set_option maxHeartbeats 4000000 in
set_option maxRecDepth 100000 in
theorem c7_fails (l : Launch) (G : GT) (σ : SI) (τ : SL) : Mc l yX7_fails cX7_fails 1 (some .boolean) 0 G [.ref (G.2.1 1)] σ τ (Qi G (Ei (b2i (f7_fails σ).1) (f7_fails σ).2 τ)) := by
  refine m_start (by decide +kernel) (Nat.le_of_ble_eq_true rfl) rfl (fun p e s m args below meth c ls X I hl => ?_)
  have hl : lv_has ls 1 [(0, .ref (G.2.1 1))] := hl
  obtain ⟨E, hE⟩ : ∃ E, E = (f7_fails σ) := ⟨_, rfl⟩
  rw [← hE]
  refine lv_aload_n X.1 X.2.1 dX7_fails_0 rfl (lv_at hl 0 rfl) ?_
  refine lv_aload_n X.1 X.2.1 dX7_fails_1 rfl (lv_at hl 0 rfl) ?_
  refine g7_2 X I (k := 1) (by decide) rfl lf_X7_22 dX7_fails_2 ?_
  refine p7_3 X I (k := 1) (by decide) rfl lf_X7_15 dX7_fails_5 (fun H locs I => ?_)
  refine lv_iconst (v := 0) X.1 X.2.1 dX7_fails_8 (by decide) ?_
  have h9 := hE
  exact r_zret X I rfl (e_i (congrArg b2i (congrArg Prod.fst h9)).symm (congrArg Prod.snd h9).symm rfl) dX7_fails_9
def f7_pass (σ : SI) : SI := if (σ 1 1) ≤ (σ 1 2) then σ else (let s0 := sp σ 1 2 ((σ 1 2) + (1 : Int32)); s0)
theorem w_f7_pass (σ : SI) (a : Nat) (h0 : a ≠ 1) : (f7_pass σ) a = σ a := by
  unfold f7_pass
  (repeat' split) <;> (first | rfl | (simp only [sp_n, su_n, ne_eq, not_false_eq_true, h0]; done) | (simp [sp_n, su_n, ne_eq, not_false_eq_true, h0]; done))
set_option maxHeartbeats 4000000 in
set_option maxRecDepth 100000 in
theorem c7_pass (l : Launch) (G : GT) (σ : SI) (τ : SL) : Mc l yX7_pass cX7_pass 1 none 0 G [.ref (G.2.1 1)] σ τ (Qv G (Ev (f7_pass σ) τ)) := by
  refine m_start (by decide +kernel) (Nat.le_of_ble_eq_true rfl) rfl (fun p e s m args below meth c ls X I hl => ?_)
  have hl : lv_has ls 1 [(0, .ref (G.2.1 1))] := hl
  obtain ⟨E, hE⟩ : ∃ E, E = (f7_pass σ) := ⟨_, rfl⟩
  rw [← hE]
  refine lv_aload_n X.1 X.2.1 dX7_pass_0 rfl (lv_at hl 0 rfl) ?_
  refine g7_2 X I (k := 1) (by decide) rfl lf_X7_22 dX7_pass_1 ?_
  refine lv_aload_n X.1 X.2.1 dX7_pass_4 rfl (lv_at hl 0 rfl) ?_
  refine g7_1 X I (k := 1) (by decide) rfl lf_X7_19 dX7_pass_5 ?_
  refine lv_icmp_ge (tgt := 21) X.1 X.2.1 dX7_pass_8 (by decide) (fun c_1 => ?_) (fun c_1 => ?_)
  · skip
    have h9 := hE.trans ((if_pos c_1).trans rfl)
    exact r_vret X I (e_v (h9).symm rfl) dX7_pass_21
  · skip
    refine lv_aload_n X.1 X.2.1 dX7_pass_11 rfl (lv_at hl 0 rfl) ?_
    refine lv_dup X.1 X.2.1 dX7_pass_12 rfl ?_
    refine g7_2 X I (k := 1) (by decide) rfl lf_X7_22 dX7_pass_13 ?_
    refine lv_iconst (v := 1) X.1 X.2.1 dX7_pass_16 (by decide) ?_
    refine lv_iadd X.1 X.2.1 dX7_pass_17 ?_
    refine p7_2 X I (k := 1) (by decide) rfl lf_X7_22 dX7_pass_18 (fun H locs I => ?_)
    have h9 := hE.trans ((if_neg c_1).trans rfl)
    exact r_vret X I (e_v (h9).symm rfl) dX7_pass_21
def f7_signAtHead (σ : SI) : Int32 := if (σ 1 2) < (0 : Int32) then (-1 : Int32) else (if (σ 1 1) ≤ (σ 1 2) then (-1 : Int32) else (if (240 : Int32) ≤ (σ 1 2) then (-1 : Int32) else (σ 2 (Int32.toNatClampNeg (σ 1 2)))))
set_option maxHeartbeats 4000000 in
set_option maxRecDepth 100000 in
theorem c7_signAtHead (l : Launch) (G : GT) (σ : SI) (τ : SL) : Mc l yX7_signAtHead cX7_signAtHead 1 (some .int) 0 G [.ref (G.2.1 1)] σ τ (Qi G (Ei (f7_signAtHead σ) σ τ)) := by
  refine m_start (by decide +kernel) (Nat.le_of_ble_eq_true rfl) rfl (fun p e s m args below meth c ls X I hl => ?_)
  have hl : lv_has ls 1 [(0, .ref (G.2.1 1))] := hl
  obtain ⟨E, hE⟩ : ∃ E, E = (f7_signAtHead σ) := ⟨_, rfl⟩
  rw [← hE]
  refine lv_aload_n X.1 X.2.1 dX7_signAtHead_0 rfl (lv_at hl 0 rfl) ?_
  refine g7_2 X I (k := 1) (by decide) rfl lf_X7_22 dX7_signAtHead_1 ?_
  refine lv_if_lt (tgt := 42) X.1 X.2.1 dX7_signAtHead_4 (by decide) (fun c_1 => ?_) (fun c_1 => ?_)
  · skip
    refine lv_iconst (v := (-1)) X.1 X.2.1 dX7_signAtHead_42 (by decide) ?_
    have h9 := hE.trans ((if_pos c_1).trans rfl)
    exact r_iret X I (e_i (h9).symm rfl rfl) dX7_signAtHead_43
  · skip
    refine lv_aload_n X.1 X.2.1 dX7_signAtHead_7 rfl (lv_at hl 0 rfl) ?_
    refine g7_2 X I (k := 1) (by decide) rfl lf_X7_22 dX7_signAtHead_8 ?_
    refine lv_aload_n X.1 X.2.1 dX7_signAtHead_11 rfl (lv_at hl 0 rfl) ?_
    refine g7_1 X I (k := 1) (by decide) rfl lf_X7_19 dX7_signAtHead_12 ?_
    refine lv_icmp_ge (tgt := 42) X.1 X.2.1 dX7_signAtHead_15 (by decide) (fun c_2 => ?_) (fun c_2 => ?_)
    · skip
      refine lv_iconst (v := (-1)) X.1 X.2.1 dX7_signAtHead_42 (by decide) ?_
      have h9 := hE.trans ((if_neg c_1).trans ((if_pos c_2).trans rfl))
      exact r_iret X I (e_i (h9).symm rfl rfl) dX7_signAtHead_43
    · skip
      refine lv_aload_n X.1 X.2.1 dX7_signAtHead_18 rfl (lv_at hl 0 rfl) ?_
      refine g7_2 X I (k := 1) (by decide) rfl lf_X7_22 dX7_signAtHead_19 ?_
      refine lv_aload_n X.1 X.2.1 dX7_signAtHead_22 rfl (lv_at hl 0 rfl) ?_
      refine g7_0 X I (k := 1) (by decide) rfl lf_X7_9 dX7_signAtHead_23 ?_
      refine r_alen X I (k := 2) (n := 240) (by decide) rfl (v := 240) rfl dX7_signAtHead_26 ?_
      refine lv_icmp_ge (tgt := 42) X.1 X.2.1 dX7_signAtHead_27 (by decide) (fun c_3 => ?_) (fun c_3 => ?_)
      · skip
        refine lv_iconst (v := (-1)) X.1 X.2.1 dX7_signAtHead_42 (by decide) ?_
        have h9 := hE.trans ((if_neg c_1).trans ((if_neg c_2).trans ((if_pos c_3).trans rfl)))
        exact r_iret X I (e_i (h9).symm rfl rfl) dX7_signAtHead_43
      · skip
        refine lv_aload_n X.1 X.2.1 dX7_signAtHead_30 rfl (lv_at hl 0 rfl) ?_
        refine g7_0 X I (k := 1) (by decide) rfl lf_X7_9 dX7_signAtHead_31 ?_
        refine lv_aload_n X.1 X.2.1 dX7_signAtHead_34 rfl (lv_at hl 0 rfl) ?_
        refine g7_2 X I (k := 1) (by decide) rfl lf_X7_22 dX7_signAtHead_35 ?_
        refine r_ald X I (k := 2) (n := 240) (by decide) rfl (vp_g (n := 240) (by decide) c_1 c_3) dX7_signAtHead_38 ?_
        refine lv_goto (tgt := 43) X.1 X.2.1 dX7_signAtHead_39 (by decide) ?_
        have h9 := hE.trans ((if_neg c_1).trans ((if_neg c_2).trans ((if_neg c_3).trans rfl)))
        exact r_iret X I (e_i (h9).symm rfl rfl) dX7_signAtHead_43
def f7_peek_c0 : Nat → SI → (Int32 × SI)
  | 0, σ => (0, σ)
  | fu + 1, σ => if (σ 1 1) ≤ (σ 1 2) then ((f7_signAtHead σ), σ) else (if (f7_signAtHead σ) = (32 : Int32) then (let s0 := sp σ 1 2 ((σ 1 2) + (1 : Int32)); (f7_peek_c0 fu s0)) else ((f7_signAtHead σ), σ))
def f7_peek (σ : SI) : Int32 × SI := (f7_peek_c0 ((Int32.toInt (σ 1 1) - Int32.toInt (σ 1 2)).toNat + 1) σ)
theorem w_f7_peek_c0 (a : Nat) (h0 : a ≠ 1) : ∀ (fu : Nat)  (σ : SI), (f7_peek_c0 fu σ).2 a = σ a := by
  intro fu
  induction fu with
  | zero => intros; rfl
  | succ fu ih =>
    intro σ
    unfold f7_peek_c0
    (repeat' split) <;> (first | rfl | (simp only [sp_n, su_n, ne_eq, not_false_eq_true, h0, ih]; done) | (simp [sp_n, su_n, ne_eq, not_false_eq_true, h0, ih]; done))
theorem w_f7_peek (σ : SI) (a : Nat) (h0 : a ≠ 1) : (f7_peek σ).2 a = σ a := by
  unfold f7_peek
  (repeat' split) <;> (first | rfl | (simp only [sp_n, su_n, ne_eq, not_false_eq_true, h0, w_f7_peek_c0]; done) | (simp [sp_n, su_n, ne_eq, not_false_eq_true, h0, w_f7_peek_c0]; done))
set_option maxHeartbeats 4000000 in
set_option maxRecDepth 100000 in
theorem c7_peek_c0 {l : Launch} {p : Program} {e : Env} {s : State} {m : MethodId} {args : Array Value} {below : List Frame} {meth : Method} {c : Code} {G : GT} (X : CX p s m args meth c cX7_peek RX7 1 (some .int) G) {E : Int32 × SI} (τ : SL) : ∀ (fu : Nat) (σ : SI) (H : Heap) (locs : List Loc) (ls : Array Slot), IX G s H locs σ τ → lv_has ls 1 [(0, .ref (G.2.1 1))] → (Int32.toInt (σ 1 1) - Int32.toInt (σ 1 2)).toNat < fu → E = (f7_peek_c0 fu σ) → W p l e (rmN 1) s m args below meth c H locs 0 0 (MQ below ((Qi G (Ei E.1 E.2 τ)) s.heap.size) args s 0 0 (AW G s.heap.size)) (F0 m 0 ls []) := by
  intro fu
  induction fu with
  | zero =>
    intro σ H locs ls I hl  hm hE
    exact absurd hm (Nat.not_lt_zero _)
  | succ fu ih =>
    intro σ H locs ls I hl  hm hE
    refine lv_aload_n X.1 X.2.1 dX7_peek_0 rfl (lv_at hl 0 rfl) ?_
    refine g7_2 X I (k := 1) (by decide) rfl lf_X7_22 dX7_peek_1 ?_
    refine lv_aload_n X.1 X.2.1 dX7_peek_4 rfl (lv_at hl 0 rfl) ?_
    refine g7_1 X I (k := 1) (by decide) rfl lf_X7_19 dX7_peek_5 ?_
    refine lv_icmp_ge (tgt := 33) X.1 X.2.1 dX7_peek_8 (by decide) (fun c_1 => ?_) (fun c_1 => ?_)
    · skip
      refine lv_aload_n X.1 X.2.1 dX7_peek_33 rfl (lv_at hl 0 rfl) ?_
      refine r_ei I (r_runV X I pk_X7_signAtHead (c7_signAtHead l G _ _) lm_X7_25 (by decide) (cl_7 rfl) rfl rfl rfl hl.1 rfl (Nat.le_of_ble_eq_true rfl) dX7_peek_34 ⟨Nat.le_of_ble_eq_true rfl, Nat.le_of_ble_eq_true rfl⟩ ⟨Nat.le_refl 0, Nat.le_refl 0⟩) (fun H locs I => ?_)
      have h9 := hE.trans ((if_pos c_1).trans rfl)
      exact r_iret X I (e_i (congrArg Prod.fst h9).symm (congrArg Prod.snd h9).symm rfl) dX7_peek_37
    · skip
      refine lv_aload_n X.1 X.2.1 dX7_peek_11 rfl (lv_at hl 0 rfl) ?_
      refine r_ei I (r_runV X I pk_X7_signAtHead (c7_signAtHead l G _ _) lm_X7_25 (by decide) (cl_7 rfl) rfl rfl rfl hl.1 rfl (Nat.le_of_ble_eq_true rfl) dX7_peek_12 ⟨Nat.le_of_ble_eq_true rfl, Nat.le_of_ble_eq_true rfl⟩ ⟨Nat.le_refl 0, Nat.le_refl 0⟩) (fun H locs I => ?_)
      refine lv_bipush (v := 32) X.1 X.2.1 dX7_peek_15 (by decide) ?_
      refine lv_icmp_ne (tgt := 33) X.1 X.2.1 dX7_peek_17 (by decide) (fun c_2 => ?_) (fun c_2 => ?_)
      · skip
        refine lv_aload_n X.1 X.2.1 dX7_peek_33 rfl (lv_at hl 0 rfl) ?_
        refine r_ei I (r_runV X I pk_X7_signAtHead (c7_signAtHead l G _ _) lm_X7_25 (by decide) (cl_7 rfl) rfl rfl rfl hl.1 rfl (Nat.le_of_ble_eq_true rfl) dX7_peek_34 ⟨Nat.le_of_ble_eq_true rfl, Nat.le_of_ble_eq_true rfl⟩ ⟨Nat.le_refl 0, Nat.le_refl 0⟩) (fun H locs I => ?_)
        have h9 := hE.trans ((if_neg c_1).trans ((if_neg c_2).trans rfl))
        exact r_iret X I (e_i (congrArg Prod.fst h9).symm (congrArg Prod.snd h9).symm rfl) dX7_peek_37
      · skip
        refine lv_aload_n X.1 X.2.1 dX7_peek_20 rfl (lv_at hl 0 rfl) ?_
        refine lv_dup X.1 X.2.1 dX7_peek_21 rfl ?_
        refine g7_2 X I (k := 1) (by decide) rfl lf_X7_22 dX7_peek_22 ?_
        refine lv_iconst (v := 1) X.1 X.2.1 dX7_peek_25 (by decide) ?_
        refine lv_iadd X.1 X.2.1 dX7_peek_26 ?_
        refine p7_2 X I (k := 1) (by decide) rfl lf_X7_22 dX7_peek_27 (fun H locs I => ?_)
        refine lv_goto (tgt := 0) X.1 X.2.1 dX7_peek_30 (by decide) ?_
        exact ih _ _ _ _ I (lv_sub hl [0] rfl) (Nat.lt_of_lt_of_le (up_dec c_1) (Nat.le_of_lt_succ hm)) (hE.trans ((if_neg c_1).trans ((if_pos c_2).trans rfl)))
set_option maxHeartbeats 4000000 in
set_option maxRecDepth 100000 in
theorem c7_peek (l : Launch) (G : GT) (σ : SI) (τ : SL) : Mc l yX7_peek cX7_peek 1 (some .int) 1 G [.ref (G.2.1 1)] σ τ (Qi G (Ei (f7_peek σ).1 (f7_peek σ).2 τ)) := by
  refine m_start (by decide +kernel) (Nat.le_of_ble_eq_true rfl) rfl (fun p e s m args below meth c ls X I hl => ?_)
  have hl : lv_has ls 1 [(0, .ref (G.2.1 1))] := hl
  obtain ⟨E, hE⟩ : ∃ E, E = (f7_peek σ) := ⟨_, rfl⟩
  rw [← hE]
  exact c7_peek_c0 X _  _ _ _ _ _ I (lv_sub hl [0] rfl) (Nat.lt_succ_self _) (hE.trans (rfl))
def f7_takeNumber_c21 (x1 : Int32) : Nat → Int32 → Int32 → SI → (Int32 × SI)
  | 0, _, _, σ => (0, σ)
  | fu + 1, v2, v3, σ => if x1 < v3 then (let r1 := (f7_fails σ); ((-1 : Int32), r1.2)) else (if (f11_isDigit (f7_signAtHead σ)) = true then (if x1 ≤ v3 then (f7_takeNumber_c21 x1 fu ((((if v2 < (0 : Int32) then (0 : Int32) else v2) * (10 : Int32)) + (f7_signAtHead σ)) - (48 : Int32)) (v3 + 1) σ) else (let s2 := (f7_pass σ); (f7_takeNumber_c21 x1 fu ((((if v2 < (0 : Int32) then (0 : Int32) else v2) * (10 : Int32)) + (f7_signAtHead σ)) - (48 : Int32)) (v3 + 1) s2))) else (v2, σ))
def f7_takeNumber (σ : SI) (x1 : Int32) : Int32 × SI := let r0 := (f7_peek σ); if (f11_isDigit r0.1) = true then (f7_takeNumber_c21 x1 ((Int32.toInt x1 + 1 - Int32.toInt (0 : Int32)).toNat + 1) (-1 : Int32) (0 : Int32) r0.2) else (let r3 := (f7_fails r0.2); ((-1 : Int32), r3.2))
theorem w_f7_takeNumber_c21 (x1 : Int32) (a : Nat) (h0 : a ≠ 1) : ∀ (fu : Nat) (v2 : Int32) (v3 : Int32) (σ : SI), (f7_takeNumber_c21 x1 fu v2 v3 σ).2 a = σ a := by
  intro fu
  induction fu with
  | zero => intros; rfl
  | succ fu ih =>
    intro v2 v3 σ
    unfold f7_takeNumber_c21
    (repeat' split) <;> (first | rfl | (simp only [sp_n, su_n, ne_eq, not_false_eq_true, h0, w_f7_fails, w_f7_pass, w_f7_peek, ih]; done) | (simp [sp_n, su_n, ne_eq, not_false_eq_true, h0, w_f7_fails, w_f7_pass, w_f7_peek, ih]; done))
theorem w_f7_takeNumber (σ : SI) (x1 : Int32) (a : Nat) (h0 : a ≠ 1) : (f7_takeNumber σ x1).2 a = σ a := by
  unfold f7_takeNumber
  (repeat' split) <;> (first | rfl | (simp only [sp_n, su_n, ne_eq, not_false_eq_true, h0, w_f7_fails, w_f7_pass, w_f7_peek, w_f7_takeNumber_c21]; done) | (simp [sp_n, su_n, ne_eq, not_false_eq_true, h0, w_f7_fails, w_f7_pass, w_f7_peek, w_f7_takeNumber_c21]; done))
set_option maxHeartbeats 4000000 in
set_option maxRecDepth 100000 in
theorem c7_takeNumber_c21 {l : Launch} {p : Program} {e : Env} {s : State} {m : MethodId} {args : Array Value} {below : List Frame} {meth : Method} {c : Code} {G : GT} (X : CX p s m args meth c cX7_takeNumber RX7 5 (some .int) G) {E : Int32 × SI} (τ : SL) (x1 : Int32) (hB : Int32.toInt x1 < 2147483647) : ∀ (fu : Nat) (v2 : Int32) (v3 : Int32) (σ : SI) (H : Heap) (locs : List Loc) (ls : Array Slot), IX G s H locs σ τ → lv_has ls 5 [(0, .ref (G.2.1 1)), (1, .int x1), (2, .int v2), (3, .int v3)] → (Int32.toInt x1 + 1 - Int32.toInt v3).toNat < fu → E = (f7_takeNumber_c21 x1 fu v2 v3 σ) → W p l e (rmN 2) s m args below meth c H locs 0 0 (MQ below ((Qi G (Ei E.1 E.2 τ)) s.heap.size) args s 0 0 (AW G s.heap.size)) (F0 m 21 ls []) := by
  intro fu
  induction fu with
  | zero =>
    intro v2 v3 σ H locs ls I hl  hm hE
    exact absurd hm (Nat.not_lt_zero _)
  | succ fu ih =>
    intro v2 v3 σ H locs ls I hl  hm hE
    refine lv_iload_n X.1 X.2.1 dX7_takeNumber_21 rfl (lv_at hl 3 rfl) ?_
    refine lv_iload_n X.1 X.2.1 dX7_takeNumber_22 rfl (lv_at hl 1 rfl) ?_
    refine lv_icmp_gt (tgt := 72) X.1 X.2.1 dX7_takeNumber_23 (by decide) (fun c_2 => ?_) (fun c_2 => ?_)
    · skip
      refine lv_aload_n X.1 X.2.1 dX7_takeNumber_72 rfl (lv_at hl 0 rfl) ?_
      refine r_ei I (r_runV X I pk_X7_fails (c7_fails l G _ _) lm_X7_32 (by decide) (cl_7 rfl) rfl rfl rfl hl.1 rfl (Nat.le_of_ble_eq_true rfl) dX7_takeNumber_73 ⟨Nat.le_of_ble_eq_true rfl, Nat.le_of_ble_eq_true rfl⟩ ⟨Nat.le_refl 0, Nat.le_refl 0⟩) (fun H locs I => ?_)
      refine lv_pop X.1 X.2.1 dX7_takeNumber_76 rfl ?_
      refine lv_iconst (v := (-1)) X.1 X.2.1 dX7_takeNumber_77 (by decide) ?_
      have h9 := hE.trans ((if_pos c_2).trans rfl)
      exact r_iret X I (e_i (congrArg Prod.fst h9).symm (congrArg Prod.snd h9).symm rfl) dX7_takeNumber_78
    · skip
      refine lv_aload_n X.1 X.2.1 dX7_takeNumber_26 rfl (lv_at hl 0 rfl) ?_
      refine r_ei I (r_runV X I pk_X7_signAtHead (c7_signAtHead l G _ _) lm_X7_25 (by decide) (cl_7 rfl) rfl rfl rfl hl.1 rfl (Nat.le_of_ble_eq_true rfl) dX7_takeNumber_27 ⟨Nat.le_of_ble_eq_true rfl, Nat.le_of_ble_eq_true rfl⟩ ⟨Nat.le_refl 0, Nat.le_refl 0⟩) (fun H locs I => ?_)
      refine lv_istore (lv' := [(4, .int _), (0, .ref _), (1, .int _), (2, .int _), (3, .int _)]) X.1 X.2.1 dX7_takeNumber_30 hl (by decide) rfl (fun ls hl => ?_)
      refine lv_iload X.1 X.2.1 dX7_takeNumber_32 (lv_at hl 0 rfl) ?_
      refine r_ei I (r_runN X I pk_X11_isDigit (c11_isDigit l G _ _ _) (by decide +kernel) rfl hl.1 rfl (Nat.le_of_ble_eq_true rfl) dX7_takeNumber_34 ⟨Nat.le_of_ble_eq_true rfl, Nat.le_of_ble_eq_true rfl⟩ ⟨Nat.le_refl 0, Nat.le_refl 0⟩) (fun H locs I => ?_)
      refine lv_if_ne (tgt := 42) X.1 X.2.1 dX7_takeNumber_37 (by decide) (fun c_3 => ?_) (fun c_3 => ?_)
      · skip
        refine lv_iload_n X.1 X.2.1 dX7_takeNumber_42 rfl (lv_at hl 3 rfl) ?_
        refine lv_iconst (v := 0) X.1 X.2.1 dX7_takeNumber_43 (by decide) ?_
        refine r_mmax X hl.1 lm_X7_43 ls_J9_max_7cf53 ln_J9 lc_J9_max_7cf53 (Nat.le_of_ble_eq_true rfl) (Nat.le_of_ble_eq_true rfl) (Nat.le_refl 0) (Nat.le_refl 0) dX7_takeNumber_44 ?_
        refine lv_bipush (v := 10) X.1 X.2.1 dX7_takeNumber_47 (by decide) ?_
        refine lv_imul X.1 X.2.1 dX7_takeNumber_49 ?_
        refine lv_iload X.1 X.2.1 dX7_takeNumber_50 (lv_at hl 0 rfl) ?_
        refine lv_iadd X.1 X.2.1 dX7_takeNumber_52 ?_
        refine lv_bipush (v := 48) X.1 X.2.1 dX7_takeNumber_53 (by decide) ?_
        refine lv_isub X.1 X.2.1 dX7_takeNumber_55 ?_
        refine lv_istore_n (lv' := [(2, .int _), (4, .int _), (0, .ref _), (1, .int _), (3, .int _)]) X.1 X.2.1 dX7_takeNumber_56 rfl hl (by decide) rfl (fun ls hl => ?_)
        refine lv_iload_n X.1 X.2.1 dX7_takeNumber_57 rfl (lv_at hl 4 rfl) ?_
        refine lv_iload_n X.1 X.2.1 dX7_takeNumber_58 rfl (lv_at hl 3 rfl) ?_
        refine lv_icmp_ge (tgt := 66) X.1 X.2.1 dX7_takeNumber_59 (by decide) (fun c_4 => ?_) (fun c_4 => ?_)
        · skip
          refine lv_iinc (v := _ + 1) (lv' := [(3, .int _), (2, .int _), (4, .int _), (0, .ref _), (1, .int _)]) X.1 X.2.1 dX7_takeNumber_66 hl (k := 4) rfl rfl (by decide) rfl (fun ls hl => ?_)
          refine lv_goto (tgt := 21) X.1 X.2.1 dX7_takeNumber_69 (by decide) ?_
          exact ih _ _ _ _ _ _ I (lv_sub hl [3, 4, 1, 0] rfl) (Nat.lt_of_lt_of_le (up_decE hB c_2) (Nat.le_of_lt_succ hm)) (hE.trans ((if_neg c_2).trans ((if_pos (b2i_y c_3)).trans ((if_pos c_4).trans rfl))))
        · skip
          refine lv_aload_n X.1 X.2.1 dX7_takeNumber_62 rfl (lv_at hl 2 rfl) ?_
          refine r_ev I (r_runV X I pk_X7_pass (c7_pass l G _ _) lm_X7_36 (by decide) (cl_7 rfl) rfl rfl rfl hl.1 rfl (Nat.le_of_ble_eq_true rfl) dX7_takeNumber_63 ⟨Nat.le_of_ble_eq_true rfl, Nat.le_of_ble_eq_true rfl⟩ ⟨Nat.le_refl 0, Nat.le_refl 0⟩) (fun H locs I => ?_)
          refine lv_iinc (v := _ + 1) (lv' := [(3, .int _), (2, .int _), (4, .int _), (0, .ref _), (1, .int _)]) X.1 X.2.1 dX7_takeNumber_66 hl (k := 4) rfl rfl (by decide) rfl (fun ls hl => ?_)
          refine lv_goto (tgt := 21) X.1 X.2.1 dX7_takeNumber_69 (by decide) ?_
          exact ih _ _ _ _ _ _ I (lv_sub hl [3, 4, 1, 0] rfl) (Nat.lt_of_lt_of_le (up_decE hB c_2) (Nat.le_of_lt_succ hm)) (hE.trans ((if_neg c_2).trans ((if_pos (b2i_y c_3)).trans ((if_neg c_4).trans rfl))))
      · skip
        refine lv_iload_n X.1 X.2.1 dX7_takeNumber_40 rfl (lv_at hl 3 rfl) ?_
        have h9 := hE.trans ((if_neg c_2).trans ((if_neg (b2i_n c_3)).trans rfl))
        exact r_iret X I (e_i (congrArg Prod.fst h9).symm (congrArg Prod.snd h9).symm rfl) dX7_takeNumber_41
set_option maxHeartbeats 4000000 in
set_option maxRecDepth 100000 in
theorem c7_takeNumber (l : Launch) (G : GT) (σ : SI) (τ : SL) (x1 : Int32) (hB : Int32.toInt x1 < 2147483647) : Mc l yX7_takeNumber cX7_takeNumber 5 (some .int) 2 G [.ref (G.2.1 1), .int x1] σ τ (Qi G (Ei (f7_takeNumber σ x1).1 (f7_takeNumber σ x1).2 τ)) := by
  refine m_start (by decide +kernel) (Nat.le_of_ble_eq_true rfl) rfl (fun p e s m args below meth c ls X I hl => ?_)
  have hl : lv_has ls 5 [(0, .ref (G.2.1 1)), (1, .int x1)] := hl
  obtain ⟨E, hE⟩ : ∃ E, E = (f7_takeNumber σ x1) := ⟨_, rfl⟩
  rw [← hE]
  refine lv_iconst (v := (-1)) X.1 X.2.1 dX7_takeNumber_0 (by decide) ?_
  refine lv_istore_n (lv' := [(2, .int _), (0, .ref _), (1, .int _)]) X.1 X.2.1 dX7_takeNumber_1 rfl hl (by decide) rfl (fun ls hl => ?_)
  refine lv_aload_n X.1 X.2.1 dX7_takeNumber_2 rfl (lv_at hl 1 rfl) ?_
  refine r_ei I (r_runV X I pk_X7_peek (c7_peek l G _ _) lm_X7_29 (by decide) (cl_7 rfl) rfl rfl rfl hl.1 rfl (Nat.le_of_ble_eq_true rfl) dX7_takeNumber_3 ⟨Nat.le_of_ble_eq_true rfl, Nat.le_of_ble_eq_true rfl⟩ ⟨Nat.le_refl 0, Nat.le_refl 0⟩) (fun H locs I => ?_)
  refine r_ei I (r_runN X I pk_X11_isDigit (c11_isDigit l G _ _ _) (by decide +kernel) rfl hl.1 rfl (Nat.le_of_ble_eq_true rfl) dX7_takeNumber_6 ⟨Nat.le_of_ble_eq_true rfl, Nat.le_of_ble_eq_true rfl⟩ ⟨Nat.le_refl 0, Nat.le_refl 0⟩) (fun H locs I => ?_)
  refine lv_if_ne (tgt := 19) X.1 X.2.1 dX7_takeNumber_9 (by decide) (fun c_1 => ?_) (fun c_1 => ?_)
  · skip
    refine lv_iconst (v := 0) X.1 X.2.1 dX7_takeNumber_19 (by decide) ?_
    refine lv_istore_n (lv' := [(3, .int _), (2, .int _), (0, .ref _), (1, .int _)]) X.1 X.2.1 dX7_takeNumber_20 rfl hl (by decide) rfl (fun ls hl => ?_)
    exact c7_takeNumber_c21 X _ _ hB _ _ _ _ _ _ _ I (lv_sub hl [2, 3, 1, 0] rfl) (Nat.lt_succ_self _) (hE.trans ((if_pos (b2i_y c_1)).trans rfl))
  · skip
    refine lv_aload_n X.1 X.2.1 dX7_takeNumber_12 rfl (lv_at hl 1 rfl) ?_
    refine r_ei I (r_runV X I pk_X7_fails (c7_fails l G _ _) lm_X7_32 (by decide) (cl_7 rfl) rfl rfl rfl hl.1 rfl (Nat.le_of_ble_eq_true rfl) dX7_takeNumber_13 ⟨Nat.le_of_ble_eq_true rfl, Nat.le_of_ble_eq_true rfl⟩ ⟨Nat.le_refl 0, Nat.le_refl 0⟩) (fun H locs I => ?_)
    refine lv_pop X.1 X.2.1 dX7_takeNumber_16 rfl ?_
    refine lv_iconst (v := (-1)) X.1 X.2.1 dX7_takeNumber_17 (by decide) ?_
    have h9 := hE.trans ((if_neg (b2i_n c_1)).trans rfl)
    exact r_iret X I (e_i (congrArg Prod.fst h9).symm (congrArg Prod.snd h9).symm rfl) dX7_takeNumber_18
