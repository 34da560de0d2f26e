def f11_isDigit (x0 : Int32) : Bool := if x0 < (48 : Int32) then false else (if (57 : Int32) < x0 then false else true)
set_option maxHeartbeats 4000000 in
set_option maxRecDepth 100000 in
theorem c11_isDigit (l : Launch) (G : GT) (σ : SI) (τ : SL) (x0 : Int32) : Mc l yX11_isDigit cX11_isDigit 1 (some .boolean) 0 G [.int x0] σ τ (Qi G (Ei (b2i (f11_isDigit x0)) σ τ)) := by
  refine m_start (by decide) (by decide) rfl (fun p e s m args below meth c ls X I hl => ?_)
  have hl : lv_has ls 1 [(0, .int x0)] := hl
  obtain ⟨E, hE⟩ : ∃ E, E = (f11_isDigit x0) := ⟨_, rfl⟩
  rw [← hE]
  refine lv_iload_n X.1 X.2.1 dX11_isDigit_0 rfl (lv_at hl 0 rfl) ?_
  refine lv_bipush (v := 48) X.1 X.2.1 dX11_isDigit_1 (by decide) ?_
  refine lv_icmp_lt (tgt := 16) X.1 X.2.1 dX11_isDigit_3 (by decide) (fun c_1 => ?_) (fun c_1 => ?_)
  · skip
    refine lv_iconst (v := 0) X.1 X.2.1 dX11_isDigit_16 (by decide) ?_
    have h9 := hE.trans ((if_pos c_1).trans rfl)
    exact r_zret X I rfl (e_i (congrArg b2i (h9)).symm rfl rfl) dX11_isDigit_17
  · skip
    refine lv_iload_n X.1 X.2.1 dX11_isDigit_6 rfl (lv_at hl 0 rfl) ?_
    refine lv_bipush (v := 57) X.1 X.2.1 dX11_isDigit_7 (by decide) ?_
    refine lv_icmp_gt (tgt := 16) X.1 X.2.1 dX11_isDigit_9 (by decide) (fun c_2 => ?_) (fun c_2 => ?_)
    · skip
      refine lv_iconst (v := 0) X.1 X.2.1 dX11_isDigit_16 (by decide) ?_
      have h9 := hE.trans ((if_neg c_1).trans ((if_pos c_2).trans rfl))
      exact r_zret X I rfl (e_i (congrArg b2i (h9)).symm rfl rfl) dX11_isDigit_17
    · skip
      refine lv_iconst (v := 1) X.1 X.2.1 dX11_isDigit_12 (by decide) ?_
      refine lv_goto (tgt := 17) X.1 X.2.1 dX11_isDigit_13 (by decide) ?_
      have h9 := hE.trans ((if_neg c_1).trans ((if_neg c_2).trans rfl))
      exact r_zret X I rfl (e_i (congrArg b2i (h9)).symm rfl rfl) dX11_isDigit_17
def f11_cell (k : Nat) (n : Nat) (σ : SI) (x1 : Int32) : Int32 := if x1 < (0 : Int32) then (0 : Int32) else (if (Int32.ofNat n) ≤ x1 then (0 : Int32) else (σ k (Int32.toNatClampNeg x1)))
set_option maxHeartbeats 4000000 in
set_option maxRecDepth 100000 in
theorem c11_cell (l : Launch) (G : GT) {k n : Nat} (hk : k < NW) (hd : kd k = 100 + n) (hn : n < 2 ^ 31) (σ : SI) (τ : SL) (x1 : Int32) : Mc l yX11_cell cX11_cell 2 (some .int) 0 G [.ref (G.2.1 k), .int x1] σ τ (Qi G (Ei (f11_cell k n σ x1) σ τ)) := by
  refine m_start (by decide) (by decide) rfl (fun p e s m args below meth c ls X I hl => ?_)
  have hl : lv_has ls 2 [(0, .ref (G.2.1 k)), (1, .int x1)] := hl
  obtain ⟨E, hE⟩ : ∃ E, E = (f11_cell k n σ x1) := ⟨_, rfl⟩
  rw [← hE]
  refine lv_iload_n X.1 X.2.1 dX11_cell_0 rfl (lv_at hl 1 rfl) ?_
  refine lv_if_lt (tgt := 16) X.1 X.2.1 dX11_cell_1 (by decide) (fun c_1 => ?_) (fun c_1 => ?_)
  · skip
    refine lv_iconst (v := 0) X.1 X.2.1 dX11_cell_16 (by decide) ?_
    have h9 := hE.trans ((if_pos c_1).trans rfl)
    exact r_iret X I (e_i (h9).symm rfl rfl) dX11_cell_17
  · skip
    refine lv_iload_n X.1 X.2.1 dX11_cell_4 rfl (lv_at hl 1 rfl) ?_
    refine lv_aload_n X.1 X.2.1 dX11_cell_5 rfl (lv_at hl 0 rfl) ?_
    refine r_alen X I (k := k) (n := n) hk hd rfl dX11_cell_6 ?_
    refine lv_icmp_ge (tgt := 16) X.1 X.2.1 dX11_cell_7 (by decide) (fun c_2 => ?_) (fun c_2 => ?_)
    · skip
      refine lv_iconst (v := 0) X.1 X.2.1 dX11_cell_16 (by decide) ?_
      have h9 := hE.trans ((if_neg c_1).trans ((if_pos c_2).trans rfl))
      exact r_iret X I (e_i (h9).symm rfl rfl) dX11_cell_17
    · skip
      refine lv_aload_n X.1 X.2.1 dX11_cell_10 rfl (lv_at hl 0 rfl) ?_
      refine lv_iload_n X.1 X.2.1 dX11_cell_11 rfl (lv_at hl 1 rfl) ?_
      refine r_ald X I (k := k) (n := n) hk hd (vp_g (n := n) hn c_1 c_2) dX11_cell_12 ?_
      refine lv_goto (tgt := 17) X.1 X.2.1 dX11_cell_13 (by decide) ?_
      have h9 := hE.trans ((if_neg c_1).trans ((if_neg c_2).trans rfl))
      exact r_iret X I (e_i (h9).symm rfl rfl) dX11_cell_17
def f8_houses (k : Nat) (σ : SI) : Int32 := (f11_cell (k + 2) 3 σ (1 : Int32))
set_option maxHeartbeats 4000000 in
set_option maxRecDepth 100000 in
theorem c8_houses (l : Launch) (G : GT) {k : Nat} (hk : isTown k) (σ : SI) (τ : SL) : Mc l yX8_houses cX8_houses 1 (some .int) 1 G [.ref (G.2.1 k)] σ τ (Qi G (Ei (f8_houses k σ) σ τ)) := by
  refine m_start (by decide) (by decide) rfl (fun p e s m args below meth c ls X I hl => ?_)
  have hl : lv_has ls 1 [(0, .ref (G.2.1 k))] := hl
  obtain ⟨E, hE⟩ : ∃ E, E = (f8_houses k σ) := ⟨_, rfl⟩
  rw [← hE]
  refine lv_aload_n X.1 X.2.1 dX8_houses_0 rfl (lv_at hl 0 rfl) ?_
  refine g8_1 X I (k := k) (Nat.lt_of_le_of_lt (Nat.add_le_add_left (show 0 ≤ 2 by decide) k) hk.1) hk.2.1 lf_X8_15 dX8_houses_1 ?_
  refine lv_iconst (v := 1) X.1 X.2.1 dX8_houses_4 (by decide) ?_
  refine r_ei I (r_runN X I pk_X11_cell (c11_cell l G (k := (k + 2)) (n := 3) (Nat.lt_of_le_of_lt (Nat.add_le_add_left (show 2 ≤ 2 by decide) k) hk.1) hk.2.2.2 (by decide) _ _ _) (by decide +kernel) rfl hl.1 rfl (Nat.le_of_ble_eq_true rfl) dX8_houses_5 ⟨Nat.le_of_ble_eq_true rfl, Nat.le_of_ble_eq_true rfl⟩ ⟨Nat.le_refl 0, Nat.le_refl 0⟩) (fun H locs I => ?_)
  have h9 := hE
  exact r_iret X I (e_i (h9).symm rfl rfl) dX8_houses_8
def f8_isHouse (k : Nat) (σ : SI) (x1 : Int32) : Bool := if x1 < (0 : Int32) then false else (if (f8_houses k σ) ≤ x1 then false else true)
set_option maxHeartbeats 4000000 in
set_option maxRecDepth 100000 in
theorem c8_isHouse (l : Launch) (G : GT) {k : Nat} (hk : isTown k) (σ : SI) (τ : SL) (x1 : Int32) : Mc l yX8_isHouse cX8_isHouse 2 (some .boolean) 2 G [.ref (G.2.1 k), .int x1] σ τ (Qi G (Ei (b2i (f8_isHouse k σ x1)) σ τ)) := by
  refine m_start (by decide) (by decide) rfl (fun p e s m args below meth c ls X I hl => ?_)
  have hl : lv_has ls 2 [(0, .ref (G.2.1 k)), (1, .int x1)] := hl
  obtain ⟨E, hE⟩ : ∃ E, E = (f8_isHouse k σ x1) := ⟨_, rfl⟩
  rw [← hE]
  refine lv_iload_n X.1 X.2.1 dX8_isHouse_0 rfl (lv_at hl 1 rfl) ?_
  refine lv_if_lt (tgt := 16) X.1 X.2.1 dX8_isHouse_1 (by decide) (fun c_1 => ?_) (fun c_1 => ?_)
  · skip
    refine lv_iconst (v := 0) X.1 X.2.1 dX8_isHouse_16 (by decide) ?_
    have h9 := hE.trans ((if_pos c_1).trans rfl)
    exact r_zret X I rfl (e_i (congrArg b2i (h9)).symm rfl rfl) dX8_isHouse_17
  · skip
    refine lv_iload_n X.1 X.2.1 dX8_isHouse_4 rfl (lv_at hl 1 rfl) ?_
    refine lv_aload_n X.1 X.2.1 dX8_isHouse_5 rfl (lv_at hl 0 rfl) ?_
    refine r_ei I (r_runV X I pk_X8_houses (c8_houses l G (k := k) hk _ _) lm_X8_54 (Nat.lt_of_le_of_lt (Nat.add_le_add_left (show 0 ≤ 2 by decide) k) hk.1) (cl_8 hk.2.1) rfl rfl rfl hl.1 rfl (Nat.le_of_ble_eq_true rfl) dX8_isHouse_6 ⟨Nat.le_of_ble_eq_true rfl, Nat.le_of_ble_eq_true rfl⟩ ⟨Nat.le_refl 0, Nat.le_refl 0⟩) (fun H locs I => ?_)
    refine lv_icmp_ge (tgt := 16) X.1 X.2.1 dX8_isHouse_9 (by decide) (fun c_2 => ?_) (fun c_2 => ?_)
    · skip
      refine lv_iconst (v := 0) X.1 X.2.1 dX8_isHouse_16 (by decide) ?_
      have h9 := hE.trans ((if_neg c_1).trans ((if_pos c_2).trans rfl))
      exact r_zret X I rfl (e_i (congrArg b2i (h9)).symm rfl rfl) dX8_isHouse_17
    · skip
      refine lv_iconst (v := 1) X.1 X.2.1 dX8_isHouse_12 (by decide) ?_
      refine lv_goto (tgt := 17) X.1 X.2.1 dX8_isHouse_13 (by decide) ?_
      have h9 := hE.trans ((if_neg c_1).trans ((if_neg c_2).trans rfl))
      exact r_zret X I rfl (e_i (congrArg b2i (h9)).symm rfl rfl) dX8_isHouse_17
def f7_signAtHead (σ : SI) : Int32 := if (σ 1 2) < (0 : Int32) then (-1 : Int32) else (if (σ 1 1) ≤ (σ 1 2) then (-1 : Int32) else (if (240 : Int32) ≤ (σ 1 2) then (-1 : Int32) else (σ 2 (Int32.toNatClampNeg (σ 1 2)))))
set_option maxHeartbeats 4000000 in
set_option maxRecDepth 100000 in
theorem c7_signAtHead (l : Launch) (G : GT) (σ : SI) (τ : SL) : Mc l yX7_signAtHead cX7_signAtHead 1 (some .int) 0 G [.ref (G.2.1 1)] σ τ (Qi G (Ei (f7_signAtHead σ) σ τ)) := by
  refine m_start (by decide) (by decide) rfl (fun p e s m args below meth c ls X I hl => ?_)
  have hl : lv_has ls 1 [(0, .ref (G.2.1 1))] := hl
  obtain ⟨E, hE⟩ : ∃ E, E = (f7_signAtHead σ) := ⟨_, rfl⟩
  rw [← hE]
  refine lv_aload_n X.1 X.2.1 dX7_signAtHead_0 rfl (lv_at hl 0 rfl) ?_
  refine g7_2 X I (k := 1) (by decide) rfl lf_X7_22 dX7_signAtHead_1 ?_
  refine lv_if_lt (tgt := 42) X.1 X.2.1 dX7_signAtHead_4 (by decide) (fun c_1 => ?_) (fun c_1 => ?_)
  · skip
    refine lv_iconst (v := (-1)) X.1 X.2.1 dX7_signAtHead_42 (by decide) ?_
    have h9 := hE.trans ((if_pos c_1).trans rfl)
    exact r_iret X I (e_i (h9).symm rfl rfl) dX7_signAtHead_43
  · skip
    refine lv_aload_n X.1 X.2.1 dX7_signAtHead_7 rfl (lv_at hl 0 rfl) ?_
    refine g7_2 X I (k := 1) (by decide) rfl lf_X7_22 dX7_signAtHead_8 ?_
    refine lv_aload_n X.1 X.2.1 dX7_signAtHead_11 rfl (lv_at hl 0 rfl) ?_
    refine g7_1 X I (k := 1) (by decide) rfl lf_X7_19 dX7_signAtHead_12 ?_
    refine lv_icmp_ge (tgt := 42) X.1 X.2.1 dX7_signAtHead_15 (by decide) (fun c_2 => ?_) (fun c_2 => ?_)
    · skip
      refine lv_iconst (v := (-1)) X.1 X.2.1 dX7_signAtHead_42 (by decide) ?_
      have h9 := hE.trans ((if_neg c_1).trans ((if_pos c_2).trans rfl))
      exact r_iret X I (e_i (h9).symm rfl rfl) dX7_signAtHead_43
    · skip
      refine lv_aload_n X.1 X.2.1 dX7_signAtHead_18 rfl (lv_at hl 0 rfl) ?_
      refine g7_2 X I (k := 1) (by decide) rfl lf_X7_22 dX7_signAtHead_19 ?_
      refine lv_aload_n X.1 X.2.1 dX7_signAtHead_22 rfl (lv_at hl 0 rfl) ?_
      refine g7_0 X I (k := 1) (by decide) rfl lf_X7_9 dX7_signAtHead_23 ?_
      refine r_alen X I (k := 2) (n := 240) (by decide) rfl (v := 240) rfl dX7_signAtHead_26 ?_
      refine lv_icmp_ge (tgt := 42) X.1 X.2.1 dX7_signAtHead_27 (by decide) (fun c_3 => ?_) (fun c_3 => ?_)
      · skip
        refine lv_iconst (v := (-1)) X.1 X.2.1 dX7_signAtHead_42 (by decide) ?_
        have h9 := hE.trans ((if_neg c_1).trans ((if_neg c_2).trans ((if_pos c_3).trans rfl)))
        exact r_iret X I (e_i (h9).symm rfl rfl) dX7_signAtHead_43
      · skip
        refine lv_aload_n X.1 X.2.1 dX7_signAtHead_30 rfl (lv_at hl 0 rfl) ?_
        refine g7_0 X I (k := 1) (by decide) rfl lf_X7_9 dX7_signAtHead_31 ?_
        refine lv_aload_n X.1 X.2.1 dX7_signAtHead_34 rfl (lv_at hl 0 rfl) ?_
        refine g7_2 X I (k := 1) (by decide) rfl lf_X7_22 dX7_signAtHead_35 ?_
        refine r_ald X I (k := 2) (n := 240) (by decide) rfl (vp_g (n := 240) (by decide) c_1 c_3) dX7_signAtHead_38 ?_
        refine lv_goto (tgt := 43) X.1 X.2.1 dX7_signAtHead_39 (by decide) ?_
        have h9 := hE.trans ((if_neg c_1).trans ((if_neg c_2).trans ((if_neg c_3).trans rfl)))
        exact r_iret X I (e_i (h9).symm rfl rfl) dX7_signAtHead_43
def f11_setCell (k : Nat) (n : Nat) (σ : SI) (x1 : Int32) (x2 : Int32) : SI := if x1 < (0 : Int32) then σ else (if (Int32.ofNat n) ≤ x1 then σ else (let s0 := sp σ k (Int32.toNatClampNeg x1) x2; s0))
set_option maxHeartbeats 4000000 in
set_option maxRecDepth 100000 in
theorem c11_setCell (l : Launch) (G : GT) {k n : Nat} (hk : k < NW) (hd : kd k = 100 + n) (hn : n < 2 ^ 31) (σ : SI) (τ : SL) (x1 : Int32) (x2 : Int32) : Mc l yX11_setCell cX11_setCell 3 none 0 G [.ref (G.2.1 k), .int x1, .int x2] σ τ (Qv G (Ev (f11_setCell k n σ x1 x2) τ)) := by
  refine m_start (by decide) (by decide) rfl (fun p e s m args below meth c ls X I hl => ?_)
  have hl : lv_has ls 3 [(0, .ref (G.2.1 k)), (1, .int x1), (2, .int x2)] := hl
  obtain ⟨E, hE⟩ : ∃ E, E = (f11_setCell k n σ x1 x2) := ⟨_, rfl⟩
  rw [← hE]
  refine lv_iload_n X.1 X.2.1 dX11_setCell_0 rfl (lv_at hl 1 rfl) ?_
  refine lv_if_lt (tgt := 14) X.1 X.2.1 dX11_setCell_1 (by decide) (fun c_1 => ?_) (fun c_1 => ?_)
  · skip
    have h9 := hE.trans ((if_pos c_1).trans rfl)
    exact r_vret X I (e_v (h9).symm rfl) dX11_setCell_14
  · skip
    refine lv_iload_n X.1 X.2.1 dX11_setCell_4 rfl (lv_at hl 1 rfl) ?_
    refine lv_aload_n X.1 X.2.1 dX11_setCell_5 rfl (lv_at hl 0 rfl) ?_
    refine r_alen X I (k := k) (n := n) hk hd rfl dX11_setCell_6 ?_
    refine lv_icmp_ge (tgt := 14) X.1 X.2.1 dX11_setCell_7 (by decide) (fun c_2 => ?_) (fun c_2 => ?_)
    · skip
      have h9 := hE.trans ((if_neg c_1).trans ((if_pos c_2).trans rfl))
      exact r_vret X I (e_v (h9).symm rfl) dX11_setCell_14
    · skip
      refine lv_aload_n X.1 X.2.1 dX11_setCell_10 rfl (lv_at hl 0 rfl) ?_
      refine lv_iload_n X.1 X.2.1 dX11_setCell_11 rfl (lv_at hl 1 rfl) ?_
      refine lv_iload_n X.1 X.2.1 dX11_setCell_12 rfl (lv_at hl 2 rfl) ?_
      refine r_ast X I (k := k) (n := n) hk hd (vp_g (n := n) hn c_1 c_2) dX11_setCell_13 (fun H locs I => ?_)
      have h9 := hE.trans ((if_neg c_1).trans ((if_neg c_2).trans rfl))
      exact r_vret X I (e_v (h9).symm rfl) dX11_setCell_14
def f8_put (k : Nat) (σ : SI) (x1 : Int32) (x2 : Int32) : SI := let s0 := (f11_setCell (k + 1) 36 σ x1 x2); s0
set_option maxHeartbeats 4000000 in
set_option maxRecDepth 100000 in
theorem c8_put (l : Launch) (G : GT) {k : Nat} (hk : isTown k) (σ : SI) (τ : SL) (x1 : Int32) (x2 : Int32) : Mc l yX8_put cX8_put 3 none 1 G [.ref (G.2.1 k), .int x1, .int x2] σ τ (Qv G (Ev (f8_put k σ x1 x2) τ)) := by
  refine m_start (by decide) (by decide) rfl (fun p e s m args below meth c ls X I hl => ?_)
  have hl : lv_has ls 3 [(0, .ref (G.2.1 k)), (1, .int x1), (2, .int x2)] := hl
  obtain ⟨E, hE⟩ : ∃ E, E = (f8_put k σ x1 x2) := ⟨_, rfl⟩
  rw [← hE]
  refine lv_aload_n X.1 X.2.1 dX8_put_0 rfl (lv_at hl 0 rfl) ?_
  refine g8_0 X I (k := k) (Nat.lt_of_le_of_lt (Nat.add_le_add_left (show 0 ≤ 2 by decide) k) hk.1) hk.2.1 lf_X8_9 dX8_put_1 ?_
  refine lv_iload_n X.1 X.2.1 dX8_put_4 rfl (lv_at hl 1 rfl) ?_
  refine lv_iload_n X.1 X.2.1 dX8_put_5 rfl (lv_at hl 2 rfl) ?_
  refine r_ev I (r_runN X I pk_X11_setCell (c11_setCell l G (k := (k + 1)) (n := 36) (Nat.lt_of_le_of_lt (Nat.add_le_add_left (show 1 ≤ 2 by decide) k) hk.1) hk.2.2.1 (by decide) _ _ _ _) (by decide +kernel) rfl hl.1 rfl (Nat.le_of_ble_eq_true rfl) dX8_put_6 ⟨Nat.le_of_ble_eq_true rfl, Nat.le_of_ble_eq_true rfl⟩ ⟨Nat.le_refl 0, Nat.le_refl 0⟩) (fun H locs I => ?_)
  have h9 := hE
  exact r_vret X I (e_v (h9).symm rfl) dX8_put_9
