noncomputable def f8_isWhole (k : Nat) (σ : SI) : Bool := if (f8_houses k σ) < (2 : Int32) then false else (if (f8_bearers k σ) < (1 : Int32) then false else (if (f8_hasSharedPlace k σ) = true then false else true))
set_option maxHeartbeats 4000000 in
set_option maxRecDepth 100000 in
theorem c8_isWhole (l : Launch) (G : GT) {k : Nat} (hk : isTown k) (σ : SI) (τ : SL) : Mc l yX8_isWhole cX8_isWhole 1 (some .boolean) 4 G [.ref (G.2.1 k)] σ τ (Qi G (Ei (b2i (f8_isWhole k σ)) σ τ)) := by
  refine m_start (by decide +kernel) (Nat.le_of_ble_eq_true rfl) rfl (fun p e s m args below meth c ls X I hl => ?_)
  have hl : lv_has ls 1 [(0, .ref (G.2.1 k))] := hl
  obtain ⟨E, hE⟩ : ∃ E, E = (f8_isWhole k σ) := ⟨_, rfl⟩
  rw [← hE]
  refine lv_aload_n X.1 X.2.1 dX8_isWhole_0 rfl (lv_at hl 0 rfl) ?_
  refine r_ei I (r_runV X I pk_X8_houses (c8_houses l G (k := k) hk _ _) lm_X8_54 (Nat.lt_of_le_of_lt (Nat.add_le_add_left (show 0 ≤ 2 by decide) k) hk.1) (cl_8 hk.2.1) rfl rfl rfl hl.1 rfl (Nat.le_of_ble_eq_true rfl) dX8_isWhole_1 ⟨Nat.le_of_ble_eq_true rfl, Nat.le_of_ble_eq_true rfl⟩ ⟨Nat.le_refl 0, Nat.le_refl 0⟩) (fun H locs I => ?_)
  refine lv_iconst (v := 2) X.1 X.2.1 dX8_isWhole_4 (by decide) ?_
  refine lv_icmp_lt (tgt := 27) X.1 X.2.1 dX8_isWhole_5 (by decide) (fun c_1 => ?_) (fun c_1 => ?_)
  · skip
    have hE := ite_t hE c_1
    refine lv_iconst (v := 0) X.1 X.2.1 dX8_isWhole_27 (by decide) ?_
    have h9 := hE
    exact r_zret X I rfl (e_i (congrArg b2i h9).symm rfl rfl) dX8_isWhole_28
  · skip
    have hE := ite_f hE c_1
    refine lv_aload_n X.1 X.2.1 dX8_isWhole_8 rfl (lv_at hl 0 rfl) ?_
    refine r_ei I (r_runV X I pk_X8_bearers (c8_bearers l G (k := k) hk _ _) lm_X8_58 (Nat.lt_of_le_of_lt (Nat.add_le_add_left (show 0 ≤ 2 by decide) k) hk.1) (cl_8 hk.2.1) rfl rfl rfl hl.1 rfl (Nat.le_of_ble_eq_true rfl) dX8_isWhole_9 ⟨Nat.le_of_ble_eq_true rfl, Nat.le_of_ble_eq_true rfl⟩ ⟨Nat.le_refl 0, Nat.le_refl 0⟩) (fun H locs I => ?_)
    refine lv_iconst (v := 1) X.1 X.2.1 dX8_isWhole_12 (by decide) ?_
    refine lv_icmp_lt (tgt := 27) X.1 X.2.1 dX8_isWhole_13 (by decide) (fun c_2 => ?_) (fun c_2 => ?_)
    · skip
      have hE := ite_t hE c_2
      refine lv_iconst (v := 0) X.1 X.2.1 dX8_isWhole_27 (by decide) ?_
      have h9 := hE
      exact r_zret X I rfl (e_i (congrArg b2i h9).symm rfl rfl) dX8_isWhole_28
    · skip
      have hE := ite_f hE c_2
      refine lv_aload_n X.1 X.2.1 dX8_isWhole_16 rfl (lv_at hl 0 rfl) ?_
      refine r_ei I (r_runV X I pk_X8_hasSharedPlace (c8_hasSharedPlace l G (k := k) hk _ _) lm_X8_61 (Nat.lt_of_le_of_lt (Nat.add_le_add_left (show 0 ≤ 2 by decide) k) hk.1) (cl_8 hk.2.1) rfl rfl rfl hl.1 rfl (Nat.le_of_ble_eq_true rfl) dX8_isWhole_17 ⟨Nat.le_of_ble_eq_true rfl, Nat.le_of_ble_eq_true rfl⟩ ⟨Nat.le_refl 0, Nat.le_refl 0⟩) (fun H locs I => ?_)
      refine lv_if_ne (tgt := 27) X.1 X.2.1 dX8_isWhole_20 (by decide) (fun c_3 => ?_) (fun c_3 => ?_)
      · skip
        have hE := ite_t hE (b2i_y c_3)
        refine lv_iconst (v := 0) X.1 X.2.1 dX8_isWhole_27 (by decide) ?_
        have h9 := hE
        exact r_zret X I rfl (e_i (congrArg b2i h9).symm rfl rfl) dX8_isWhole_28
      · skip
        have hE := ite_f hE (b2i_n c_3)
        refine lv_iconst (v := 1) X.1 X.2.1 dX8_isWhole_23 (by decide) ?_
        refine lv_goto (tgt := 28) X.1 X.2.1 dX8_isWhole_24 (by decide) ?_
        have h9 := hE
        exact r_zret X I rfl (e_i (congrArg b2i h9).symm rfl rfl) dX8_isWhole_28
noncomputable def f8_isTold (k : Nat) (σ : SI) : Bool := if (f8_houses k σ) ≤ (0 : Int32) then false else true
set_option maxHeartbeats 4000000 in
set_option maxRecDepth 100000 in
theorem c8_isTold (l : Launch) (G : GT) {k : Nat} (hk : isTown k) (σ : SI) (τ : SL) : Mc l yX8_isTold cX8_isTold 1 (some .boolean) 2 G [.ref (G.2.1 k)] σ τ (Qi G (Ei (b2i (f8_isTold k σ)) σ τ)) := by
  refine m_start (by decide +kernel) (Nat.le_of_ble_eq_true rfl) rfl (fun p e s m args below meth c ls X I hl => ?_)
  have hl : lv_has ls 1 [(0, .ref (G.2.1 k))] := hl
  obtain ⟨E, hE⟩ : ∃ E, E = (f8_isTold k σ) := ⟨_, rfl⟩
  rw [← hE]
  refine lv_aload_n X.1 X.2.1 dX8_isTold_0 rfl (lv_at hl 0 rfl) ?_
  refine r_ei I (r_runV X I pk_X8_houses (c8_houses l G (k := k) hk _ _) lm_X8_54 (Nat.lt_of_le_of_lt (Nat.add_le_add_left (show 0 ≤ 2 by decide) k) hk.1) (cl_8 hk.2.1) rfl rfl rfl hl.1 rfl (Nat.le_of_ble_eq_true rfl) dX8_isTold_1 ⟨Nat.le_of_ble_eq_true rfl, Nat.le_of_ble_eq_true rfl⟩ ⟨Nat.le_refl 0, Nat.le_refl 0⟩) (fun H locs I => ?_)
  refine lv_if_le (tgt := 11) X.1 X.2.1 dX8_isTold_4 (by decide) (fun c_1 => ?_) (fun c_1 => ?_)
  · skip
    have hE := ite_t hE c_1
    refine lv_iconst (v := 0) X.1 X.2.1 dX8_isTold_11 (by decide) ?_
    have h9 := hE
    exact r_zret X I rfl (e_i (congrArg b2i h9).symm rfl rfl) dX8_isTold_12
  · skip
    have hE := ite_f hE c_1
    refine lv_iconst (v := 1) X.1 X.2.1 dX8_isTold_7 (by decide) ?_
    refine lv_goto (tgt := 12) X.1 X.2.1 dX8_isTold_8 (by decide) ?_
    have h9 := hE
    exact r_zret X I rfl (e_i (congrArg b2i h9).symm rfl rfl) dX8_isTold_12
noncomputable def f8_growth (k : Nat) (σ : SI) : Int32 := (f11_cell (k + 1) 36 σ (2 : Int32))
set_option maxHeartbeats 4000000 in
set_option maxRecDepth 100000 in
theorem c8_growth (l : Launch) (G : GT) {k : Nat} (hk : isTown k) (σ : SI) (τ : SL) : Mc l yX8_growth cX8_growth 1 (some .int) 1 G [.ref (G.2.1 k)] σ τ (Qi G (Ei (f8_growth k σ) σ τ)) := by
  refine m_start (by decide +kernel) (Nat.le_of_ble_eq_true rfl) rfl (fun p e s m args below meth c ls X I hl => ?_)
  have hl : lv_has ls 1 [(0, .ref (G.2.1 k))] := hl
  obtain ⟨E, hE⟩ : ∃ E, E = (f8_growth k σ) := ⟨_, rfl⟩
  rw [← hE]
  refine lv_aload_n X.1 X.2.1 dX8_growth_0 rfl (lv_at hl 0 rfl) ?_
  refine g8_0 X I (k := k) (Nat.lt_of_le_of_lt (Nat.add_le_add_left (show 0 ≤ 2 by decide) k) hk.1) hk.2.1 lf_X8_9 dX8_growth_1 ?_
  refine lv_iconst (v := 2) X.1 X.2.1 dX8_growth_4 (by decide) ?_
  refine r_ei I (r_runN X I pk_X11_cell (c11_cell l G (k := (k + 1)) (n := 36) (Nat.lt_of_le_of_lt (Nat.add_le_add_left (show 1 ≤ 2 by decide) k) hk.1) hk.2.2.1 (by decide) _ _ _) (by decide +kernel) rfl hl.1 rfl (Nat.le_of_ble_eq_true rfl) dX8_growth_5 ⟨Nat.le_of_ble_eq_true rfl, Nat.le_of_ble_eq_true rfl⟩ ⟨Nat.le_refl 0, Nat.le_refl 0⟩) (fun H locs I => ?_)
  have h9 := hE
  exact r_iret X I (e_i h9.symm rfl rfl) dX8_growth_8
noncomputable def f9_draft : Option Nat := (some 4)
set_option maxHeartbeats 4000000 in
set_option maxRecDepth 100000 in
theorem c9_draft (l : Launch) (G : GT) (σ : SI) (τ : SL) : Mc l yX9_draft cX9_draft 1 (some (.object "SaintCarried$Town")) 0 G [.ref (G.2.1 3)] σ τ (Qq G (Eq1 (f9_draft.map G.2.1) σ τ)) := by
  refine m_start (by decide +kernel) (Nat.le_of_ble_eq_true rfl) rfl (fun p e s m args below meth c ls X I hl => ?_)
  have hl : lv_has ls 1 [(0, .ref (G.2.1 3))] := hl
  obtain ⟨E, hE⟩ : ∃ E, E = f9_draft := ⟨_, rfl⟩
  rw [← hE]
  refine lv_aload_n X.1 X.2.1 dX9_draft_0 rfl (lv_at hl 0 rfl) ?_
  refine g9_1 X I (k := 3) (by decide) rfl lf_X9_18 dX9_draft_1 ?_
  have h9 := hE
  exact r_qret (v := some _) X I (Or.inl ⟨_, rfl⟩) (e_q (congrArg (Option.map G.2.1) h9).symm rfl rfl) dX9_draft_4
noncomputable def f11_indexOfS_c2 (j : Nat) (x1 : Int32) : Nat → Int32 → Int32
  | 0, _ => 0
  | fu + 1, v2 => if (Int32.ofNat (zL j)) ≤ v2 then (-1 : Int32) else (if (zF j (Int32.toNatClampNeg v2)) = x1 then v2 else (f11_indexOfS_c2 j x1 fu (v2 + 1)))
noncomputable def f11_indexOfS (j : Nat) (x1 : Int32) : Int32 := (f11_indexOfS_c2 j x1 (fu1 ((Int32.toInt (Int32.ofNat (zL j)) - Int32.toInt (0 : Int32)).toNat)) (0 : Int32))
set_option maxHeartbeats 4000000 in
set_option maxRecDepth 100000 in
theorem c11_indexOfS_c2 {l : Launch} {p : Program} {e : Env} {s : State} {m : MethodId} {args : Array Value} {below : List Frame} {meth : Method} {c : Code} {G : GT} (X : CX p s m args meth c cX11_indexOf RX11 3 (some .int) G) (j : Nat) (hj : j < 9) {E : Int32} (σ : SI) (τ : SL) (x1 : Int32) : ∀ (fu : Nat) (v2 : Int32) (H : Heap) (locs : List Loc) (ls : Array Slot), IX G s H locs σ τ → lv_has ls 3 [(0, .ref (G.2.2.2 j)), (1, .int x1), (2, .int v2)] → ¬ v2 < 0 → (Int32.toInt (Int32.ofNat (zL j)) - Int32.toInt v2).toNat < fu → E = (f11_indexOfS_c2 j x1 fu v2) → W p l e (rmN 0) s m args below meth c H locs 0 0 (MQ below ((Qi G (Ei E σ τ)) s.heap.size) args s 0 0 (AW G s.heap.size)) (F0 m 2 ls []) := by
  intro fu
  induction fu with
  | zero =>
    intro v2 H locs ls I hl h0 hm hE
    exact absurd hm (Nat.not_lt_zero _)
  | succ fu ih =>
    intro v2 H locs ls I hl h0 hm hE
    refine lv_iload_n X.1 X.2.1 dX11_indexOf_2 rfl (lv_at hl 2 rfl) ?_
    refine lv_aload_n X.1 X.2.1 dX11_indexOf_3 rfl (lv_at hl 0 rfl) ?_
    refine r_stlen X I j hj rfl dX11_indexOf_4 ?_
    refine lv_icmp_ge (tgt := 23) X.1 X.2.1 dX11_indexOf_5 (by decide) (fun c_1 => ?_) (fun c_1 => ?_)
    · skip
      have hE := ite_t hE c_1
      refine lv_iconst (v := (-1)) X.1 X.2.1 dX11_indexOf_23 (by decide) ?_
      have h9 := hE
      exact r_iret X I (e_i h9.symm rfl rfl) dX11_indexOf_24
    · skip
      have hE := ite_f hE c_1
      refine lv_aload_n X.1 X.2.1 dX11_indexOf_8 rfl (lv_at hl 0 rfl) ?_
      refine lv_iload_n X.1 X.2.1 dX11_indexOf_9 rfl (lv_at hl 2 rfl) ?_
      refine r_stld X I j hj (vp_g (n := (zL j)) (zL_lt hj) h0 c_1) dX11_indexOf_10 ?_
      refine lv_iload_n X.1 X.2.1 dX11_indexOf_11 rfl (lv_at hl 1 rfl) ?_
      refine lv_icmp_ne (tgt := 17) X.1 X.2.1 dX11_indexOf_12 (by decide) (fun c_2 => ?_) (fun c_2 => ?_)
      · skip
        have hE := ite_f hE c_2
        refine lv_iinc (v := _ + 1) (lv' := [(2, .int _), (0, .ref _), (1, .int _)]) X.1 X.2.1 dX11_indexOf_17 hl (k := 2) rfl rfl (by decide) rfl (fun ls hl => ?_)
        refine lv_goto (tgt := 2) X.1 X.2.1 dX11_indexOf_20 (by decide) ?_
        exact ih _ _ _ _ I (lv_sub hl [1, 2, 0] rfl) (up_nn h0 c_1) (Nat.lt_of_lt_of_le (up_dec c_1) (Nat.le_of_lt_succ hm)) (hE.trans (rfl))
      · skip
        have hE := ite_t hE c_2
        refine lv_iload_n X.1 X.2.1 dX11_indexOf_15 rfl (lv_at hl 2 rfl) ?_
        have h9 := hE
        exact r_iret X I (e_i h9.symm rfl rfl) dX11_indexOf_16
set_option maxHeartbeats 4000000 in
set_option maxRecDepth 100000 in
theorem c11_indexOfS (l : Launch) (G : GT) (j : Nat) (hj : j < 9) (σ : SI) (τ : SL) (x1 : Int32) : Mc l yX11_indexOf cX11_indexOf 3 (some .int) 0 G [.ref (G.2.2.2 j), .int x1] σ τ (Qi G (Ei (f11_indexOfS j x1) σ τ)) := by
  refine m_start (by decide +kernel) (Nat.le_of_ble_eq_true rfl) rfl (fun p e s m args below meth c ls X I hl => ?_)
  have hl : lv_has ls 3 [(0, .ref (G.2.2.2 j)), (1, .int x1)] := hl
  obtain ⟨E, hE⟩ : ∃ E, E = (f11_indexOfS j x1) := ⟨_, rfl⟩
  rw [← hE]
  refine lv_iconst (v := 0) X.1 X.2.1 dX11_indexOf_0 (by decide) ?_
  refine lv_istore_n (lv' := [(2, .int _), (0, .ref _), (1, .int _)]) X.1 X.2.1 dX11_indexOf_1 rfl hl (by decide) rfl (fun ls hl => ?_)
  exact c11_indexOfS_c2 X j hj _ _ _ _ _ _ _ _ I (lv_sub hl [1, 2, 0] rfl) (by decide) (fu1_lt _) (hE.trans (rfl))
noncomputable def f9_itemOf_c2 (x0 : Int32) (x1 : Int32) : Nat → Int32 → Int32
  | 0, _ => 0
  | fu + 1, v2 => if (f11_cellS 3 x0) ≤ v2 then (-1 : Int32) else (if (f11_cellS 5 ((f11_cellS 4 x0) + v2)) = x1 then v2 else (f9_itemOf_c2 x0 x1 fu (v2 + 1)))
noncomputable def f9_itemOf (x0 : Int32) (x1 : Int32) : Int32 := (f9_itemOf_c2 x0 x1 (fu1 ((Int32.toInt (f11_cellS 3 x0) - Int32.toInt (0 : Int32)).toNat)) (0 : Int32))
set_option maxHeartbeats 4000000 in
set_option maxRecDepth 100000 in
theorem c9_itemOf_c2 {l : Launch} {p : Program} {e : Env} {s : State} {m : MethodId} {args : Array Value} {below : List Frame} {meth : Method} {c : Code} {G : GT} (X : CX p s m args meth c cX9_itemOf RX9 3 (some .int) G) {E : Int32} (σ : SI) (τ : SL) (x0 : Int32) (x1 : Int32) : ∀ (fu : Nat) (v2 : Int32) (H : Heap) (locs : List Loc) (ls : Array Slot), IX G s H locs σ τ → lv_has ls 3 [(0, .int x0), (1, .int x1), (2, .int v2)] → (Int32.toInt (f11_cellS 3 x0) - Int32.toInt v2).toNat < fu → E = (f9_itemOf_c2 x0 x1 fu v2) → W p l e (rmN 1) s m args below meth c H locs 0 0 (MQ below ((Qi G (Ei E σ τ)) s.heap.size) args s 0 0 (AW G s.heap.size)) (F0 m 2 ls []) := by
  intro fu
  induction fu with
  | zero =>
    intro v2 H locs ls I hl  hm hE
    exact absurd hm (Nat.not_lt_zero _)
  | succ fu ih =>
    intro v2 H locs ls I hl  hm hE
    refine lv_iload_n X.1 X.2.1 dX9_itemOf_2 rfl (lv_at hl 2 rfl) ?_
    refine r_sget X I 3 (by decide) (index := 83) (by decide +kernel) dX9_itemOf_3 ?_
    refine lv_iload_n X.1 X.2.1 dX9_itemOf_6 rfl (lv_at hl 0 rfl) ?_
    refine r_ei I (r_runN X I pk_X11_cell (c11_cellS l G 3 (by decide) _ _ _) (by decide +kernel) rfl hl.1 rfl (Nat.le_of_ble_eq_true rfl) dX9_itemOf_7 ⟨Nat.le_of_ble_eq_true rfl, Nat.le_of_ble_eq_true rfl⟩ ⟨Nat.le_refl 0, Nat.le_refl 0⟩) (fun H locs I => ?_)
    refine lv_icmp_ge (tgt := 40) X.1 X.2.1 dX9_itemOf_10 (by decide) (fun c_1 => ?_) (fun c_1 => ?_)
    · skip
      have hE := ite_t hE c_1
      refine lv_iconst (v := (-1)) X.1 X.2.1 dX9_itemOf_40 (by decide) ?_
      have h9 := hE
      exact r_iret X I (e_i h9.symm rfl rfl) dX9_itemOf_41
    · skip
      have hE := ite_f hE c_1
      refine r_sget X I 5 (by decide) (index := 86) (by decide +kernel) dX9_itemOf_13 ?_
      refine r_sget X I 4 (by decide) (index := 74) (by decide +kernel) dX9_itemOf_16 ?_
      refine lv_iload_n X.1 X.2.1 dX9_itemOf_19 rfl (lv_at hl 0 rfl) ?_
      refine r_ei I (r_runN X I pk_X11_cell (c11_cellS l G 4 (by decide) _ _ _) (by decide +kernel) rfl hl.1 rfl (Nat.le_of_ble_eq_true rfl) dX9_itemOf_20 ⟨Nat.le_of_ble_eq_true rfl, Nat.le_of_ble_eq_true rfl⟩ ⟨Nat.le_refl 0, Nat.le_refl 0⟩) (fun H locs I => ?_)
      refine lv_iload_n X.1 X.2.1 dX9_itemOf_23 rfl (lv_at hl 2 rfl) ?_
      refine lv_iadd X.1 X.2.1 dX9_itemOf_24 ?_
      refine r_ei I (r_runN X I pk_X11_cell (c11_cellS l G 5 (by decide) _ _ _) (by decide +kernel) rfl hl.1 rfl (Nat.le_of_ble_eq_true rfl) dX9_itemOf_25 ⟨Nat.le_of_ble_eq_true rfl, Nat.le_of_ble_eq_true rfl⟩ ⟨Nat.le_refl 0, Nat.le_refl 0⟩) (fun H locs I => ?_)
      refine lv_iload_n X.1 X.2.1 dX9_itemOf_28 rfl (lv_at hl 1 rfl) ?_
      refine lv_icmp_ne (tgt := 34) X.1 X.2.1 dX9_itemOf_29 (by decide) (fun c_2 => ?_) (fun c_2 => ?_)
      · skip
        have hE := ite_f hE c_2
        refine lv_iinc (v := _ + 1) (lv' := [(2, .int _), (0, .int _), (1, .int _)]) X.1 X.2.1 dX9_itemOf_34 hl (k := 2) rfl rfl (by decide) rfl (fun ls hl => ?_)
        refine lv_goto (tgt := 2) X.1 X.2.1 dX9_itemOf_37 (by decide) ?_
        exact ih _ _ _ _ I (lv_sub hl [1, 2, 0] rfl) (Nat.lt_of_lt_of_le (up_dec c_1) (Nat.le_of_lt_succ hm)) (hE.trans (rfl))
      · skip
        have hE := ite_t hE c_2
        refine lv_iload_n X.1 X.2.1 dX9_itemOf_32 rfl (lv_at hl 2 rfl) ?_
        have h9 := hE
        exact r_iret X I (e_i h9.symm rfl rfl) dX9_itemOf_33
set_option maxHeartbeats 4000000 in
set_option maxRecDepth 100000 in
theorem c9_itemOf (l : Launch) (G : GT) (σ : SI) (τ : SL) (x0 : Int32) (x1 : Int32) : Mc l yX9_itemOf cX9_itemOf 3 (some .int) 1 G [.int x0, .int x1] σ τ (Qi G (Ei (f9_itemOf x0 x1) σ τ)) := by
  refine m_start (by decide +kernel) (Nat.le_of_ble_eq_true rfl) rfl (fun p e s m args below meth c ls X I hl => ?_)
  have hl : lv_has ls 3 [(0, .int x0), (1, .int x1)] := hl
  obtain ⟨E, hE⟩ : ∃ E, E = (f9_itemOf x0 x1) := ⟨_, rfl⟩
  rw [← hE]
  refine lv_iconst (v := 0) X.1 X.2.1 dX9_itemOf_0 (by decide) ?_
  refine lv_istore_n (lv' := [(2, .int _), (0, .int _), (1, .int _)]) X.1 X.2.1 dX9_itemOf_1 rfl hl (by decide) rfl (fun ls hl => ?_)
  exact c9_itemOf_c2 X _ _ _ _ _ _ _ _ _ I (lv_sub hl [1, 2, 0] rfl) (fu1_lt _) (hE.trans (rfl))
noncomputable def f9_readsNumber (σ : SI) (x1 : Int32) (x2 : Int32) : Bool × SI := let r0 := (f7_takeNumber σ (2 : Int32)); if r0.1 = (-1 : Int32) then (false, r0.2) else (if r0.1 < (f11_cellS 6 x2) then (let r1 := (f7_failsAtLastDigit r0.2); r1) else (if r0.1 ≤ (f11_cellS 7 x2) then (let s2 := (f8_put 4 r0.2 x1 r0.1); (true, s2)) else (let r3 := (f7_failsAtLastDigit r0.2); r3)))
theorem w_f9_readsNumber (σ : SI) (x1 : Int32) (x2 : Int32) (a : Nat) (h0 : a ≠ 1) (h1 : a ≠ 5) : (f9_readsNumber σ x1 x2).2 a = σ a := by
  refine fp_to2 ?_
  unfold f9_readsNumber
  exact (fr_ite2 (fr_mk21 (w_f7_takeNumber _ _ a h0)) (fr_ite2 ((w_f7_failsAtLastDigit _ a h0).trans (w_f7_takeNumber _ _ a h0)) (fr_ite2 (fr_mk21 ((w_f8_put _ _ _ a h1).trans (w_f7_takeNumber _ _ a h0))) ((w_f7_failsAtLastDigit _ a h0).trans (w_f7_takeNumber _ _ a h0)))))
set_option maxHeartbeats 4000000 in
set_option maxRecDepth 100000 in
theorem c9_readsNumber (l : Launch) (G : GT) (σ : SI) (τ : SL) (x1 : Int32) (x2 : Int32) : Mc l yX9_readsNumber cX9_readsNumber 4 (some .boolean) 2 G [.ref (G.2.1 3), .int x1, .int x2] σ τ (Qi G (Ei (b2i (f9_readsNumber σ x1 x2).1) (f9_readsNumber σ x1 x2).2 τ)) := by
  refine m_start (by decide +kernel) (Nat.le_of_ble_eq_true rfl) rfl (fun p e s m args below meth c ls X I hl => ?_)
  have hl : lv_has ls 4 [(0, .ref (G.2.1 3)), (1, .int x1), (2, .int x2)] := hl
  obtain ⟨E, hE⟩ : ∃ E, E = (f9_readsNumber σ x1 x2) := ⟨_, rfl⟩
  rw [← hE]
  refine lv_aload_n X.1 X.2.1 dX9_readsNumber_0 rfl (lv_at hl 0 rfl) ?_
  refine g9_0 X I (k := 3) (by decide) rfl lf_X9_9 dX9_readsNumber_1 ?_
  refine lv_iconst (v := 2) X.1 X.2.1 dX9_readsNumber_4 (by decide) ?_
  refine r_ei I (r_runV X I pk_X7_takeNumber (c7_takeNumber l G _ _ _ (by decide)) lm_X9_89 (by decide) (cl_7 rfl) rfl rfl rfl hl.1 rfl (Nat.le_of_ble_eq_true rfl) dX9_readsNumber_5 ⟨Nat.le_of_ble_eq_true rfl, Nat.le_of_ble_eq_true rfl⟩ ⟨Nat.le_refl 0, Nat.le_refl 0⟩) (fun H locs I => ?_)
  refine lv_istore_n (lv' := [(3, .int _), (0, .ref _), (1, .int _), (2, .int _)]) X.1 X.2.1 dX9_readsNumber_8 rfl hl (by decide) rfl (fun ls hl => ?_)
  refine lv_iload_n X.1 X.2.1 dX9_readsNumber_9 rfl (lv_at hl 0 rfl) ?_
  refine lv_iconst (v := (-1)) X.1 X.2.1 dX9_readsNumber_10 (by decide) ?_
  refine lv_icmp_ne (tgt := 16) X.1 X.2.1 dX9_readsNumber_11 (by decide) (fun c_1 => ?_) (fun c_1 => ?_)
  · skip
    have hE := ite_f hE c_1
    refine lv_iload_n X.1 X.2.1 dX9_readsNumber_16 rfl (lv_at hl 0 rfl) ?_
    refine r_sget X I 6 (by decide) (index := 92) (by decide +kernel) dX9_readsNumber_17 ?_
    refine lv_iload_n X.1 X.2.1 dX9_readsNumber_20 rfl (lv_at hl 3 rfl) ?_
    refine r_ei I (r_runN X I pk_X11_cell (c11_cellS l G 6 (by decide) _ _ _) (by decide +kernel) rfl hl.1 rfl (Nat.le_of_ble_eq_true rfl) dX9_readsNumber_21 ⟨Nat.le_of_ble_eq_true rfl, Nat.le_of_ble_eq_true rfl⟩ ⟨Nat.le_refl 0, Nat.le_refl 0⟩) (fun H locs I => ?_)
    refine lv_icmp_lt (tgt := 38) X.1 X.2.1 dX9_readsNumber_24 (by decide) (fun c_2 => ?_) (fun c_2 => ?_)
    · skip
      have hE := ite_t hE c_2
      refine lv_aload_n X.1 X.2.1 dX9_readsNumber_38 rfl (lv_at hl 1 rfl) ?_
      refine g9_0 X I (k := 3) (by decide) rfl lf_X9_9 dX9_readsNumber_39 ?_
      refine r_ei I (r_runV X I pk_X7_failsAtLastDigit (c7_failsAtLastDigit l G _ _) lm_X9_98 (by decide) (cl_7 rfl) rfl rfl rfl hl.1 rfl (Nat.le_of_ble_eq_true rfl) dX9_readsNumber_42 ⟨Nat.le_of_ble_eq_true rfl, Nat.le_of_ble_eq_true rfl⟩ ⟨Nat.le_refl 0, Nat.le_refl 0⟩) (fun H locs I => ?_)
      have h9 := hE
      exact r_zret X I (b2i_nar _) (e_i (congrArg b2i (congrArg Prod.fst h9)).symm (congrArg Prod.snd h9).symm rfl) dX9_readsNumber_45
    · skip
      have hE := ite_f hE c_2
      refine lv_iload_n X.1 X.2.1 dX9_readsNumber_27 rfl (lv_at hl 0 rfl) ?_
      refine r_sget X I 7 (by decide) (index := 95) (by decide +kernel) dX9_readsNumber_28 ?_
      refine lv_iload_n X.1 X.2.1 dX9_readsNumber_31 rfl (lv_at hl 3 rfl) ?_
      refine r_ei I (r_runN X I pk_X11_cell (c11_cellS l G 7 (by decide) _ _ _) (by decide +kernel) rfl hl.1 rfl (Nat.le_of_ble_eq_true rfl) dX9_readsNumber_32 ⟨Nat.le_of_ble_eq_true rfl, Nat.le_of_ble_eq_true rfl⟩ ⟨Nat.le_refl 0, Nat.le_refl 0⟩) (fun H locs I => ?_)
      refine lv_icmp_le (tgt := 46) X.1 X.2.1 dX9_readsNumber_35 (by decide) (fun c_3 => ?_) (fun c_3 => ?_)
      · skip
        have hE := ite_t hE c_3
        refine lv_aload_n X.1 X.2.1 dX9_readsNumber_46 rfl (lv_at hl 1 rfl) ?_
        refine g9_1 X I (k := 3) (by decide) rfl lf_X9_18 dX9_readsNumber_47 ?_
        refine lv_iload_n X.1 X.2.1 dX9_readsNumber_50 rfl (lv_at hl 2 rfl) ?_
        refine lv_iload_n X.1 X.2.1 dX9_readsNumber_51 rfl (lv_at hl 0 rfl) ?_
        refine r_ev I (r_runV X I pk_X8_put (c8_put l G (k := 4) ⟨by decide, rfl, rfl, rfl⟩ _ _ _ _) lm_X9_101 (by decide) (cl_8 rfl) rfl rfl rfl hl.1 rfl (Nat.le_of_ble_eq_true rfl) dX9_readsNumber_52 ⟨Nat.le_of_ble_eq_true rfl, Nat.le_of_ble_eq_true rfl⟩ ⟨Nat.le_refl 0, Nat.le_refl 0⟩) (fun H locs I => ?_)
        refine lv_iconst (v := 1) X.1 X.2.1 dX9_readsNumber_55 (by decide) ?_
        have h9 := hE
        exact r_zret X I rfl (e_i (congrArg b2i (pr_fst (a := true) h9)) (pr_snd h9) rfl) dX9_readsNumber_56
      · skip
        have hE := ite_f hE c_3
        refine lv_aload_n X.1 X.2.1 dX9_readsNumber_38 rfl (lv_at hl 1 rfl) ?_
        refine g9_0 X I (k := 3) (by decide) rfl lf_X9_9 dX9_readsNumber_39 ?_
        refine r_ei I (r_runV X I pk_X7_failsAtLastDigit (c7_failsAtLastDigit l G _ _) lm_X9_98 (by decide) (cl_7 rfl) rfl rfl rfl hl.1 rfl (Nat.le_of_ble_eq_true rfl) dX9_readsNumber_42 ⟨Nat.le_of_ble_eq_true rfl, Nat.le_of_ble_eq_true rfl⟩ ⟨Nat.le_refl 0, Nat.le_refl 0⟩) (fun H locs I => ?_)
        have h9 := hE
        exact r_zret X I (b2i_nar _) (e_i (congrArg b2i (congrArg Prod.fst h9)).symm (congrArg Prod.snd h9).symm rfl) dX9_readsNumber_45
  · skip
    have hE := ite_t hE c_1
    refine lv_iconst (v := 0) X.1 X.2.1 dX9_readsNumber_14 (by decide) ?_
    have h9 := hE
    exact r_zret X I rfl (e_i (congrArg b2i (pr_fst (a := false) h9)) (pr_snd h9) rfl) dX9_readsNumber_15
noncomputable def f9_readsClause_c48 (x1 : Int32) (x2 : Int32) : Nat → Int32 → Int32 → SI → (Bool × SI)
  | 0, _, _, σ => (false, σ)
  | fu + 1, v3, v4, σ => if (4 : Int32) < v4 then (let r3 := (f7_fails σ); r3) else (let r4 := (f7_peek σ); if r4.1 = (-1 : Int32) then (true, r4.2) else (if r4.1 = (59 : Int32) then (true, r4.2) else (if (f9_itemOf x1 r4.1) = (-1 : Int32) then (let r5 := (f7_fails r4.2); r5) else (if (f11_hasBit v3 (f9_itemOf x1 r4.1)) = true then (let r8 := (f7_fails r4.2); r8) else (let s6 := (f7_pass r4.2); let r7 := (f9_readsNumber s6 (x2 + (f9_itemOf x1 r4.1)) ((f11_cellS 4 x1) + (f9_itemOf x1 r4.1))); if r7.1 = true then (f9_readsClause_c48 x1 x2 fu (v3 ||| ((1 : Int32) <<< ((f9_itemOf x1 r4.1) &&& 31))) (v4 + 1) r7.2) else (false, r7.2))))))
noncomputable def f9_readsClause (σ : SI) : Bool × SI := let r0 := (f7_peek σ); let r1 := (f8_open 4 r0.2 (f11_indexOfS 0 r0.1)); if r1.1 = (-1 : Int32) then (let r9 := (f7_fails r1.2); r9) else (let s2 := (f7_pass r1.2); (f9_readsClause_c48 (f11_indexOfS 0 r0.1) r1.1 (fu1 ((Int32.toInt (4 : Int32) + 1 - Int32.toInt (0 : Int32)).toNat)) (0 : Int32) (0 : Int32) s2))
theorem w_f9_readsClause_c48 (x1 : Int32) (x2 : Int32) (a : Nat) (h0 : a ≠ 1) (h1 : a ≠ 5) (h2 : a ≠ 6) : ∀ (fu : Nat) (v3 : Int32) (v4 : Int32) (σ : SI), (f9_readsClause_c48 x1 x2 fu v3 v4 σ).2 a = σ a := by
  intro fu
  induction fu with
  | zero => intro v3 v4 σ; exact rfl
  | succ fu ih =>
    intro v3 v4 σ
    refine fp_to2 ?_
    unfold f9_readsClause_c48
    exact (fr_ite2 (w_f7_fails _ a h0) (fr_ite2 (fr_mk21 (w_f7_peek _ a h0)) (fr_ite2 (fr_mk21 (w_f7_peek _ a h0)) (fr_ite2 ((w_f7_fails _ a h0).trans (w_f7_peek _ a h0)) (fr_ite2 ((w_f7_fails _ a h0).trans (w_f7_peek _ a h0)) (fr_ite2 (fp_of2 (((ih _ _ _).trans ((w_f9_readsNumber _ _ _ a h0 h1).trans ((w_f7_pass _ a h0).trans (w_f7_peek _ a h0)))))) (fr_mk21 ((w_f9_readsNumber _ _ _ a h0 h1).trans ((w_f7_pass _ a h0).trans (w_f7_peek _ a h0))))))))))
theorem w_f9_readsClause (σ : SI) (a : Nat) (h0 : a ≠ 1) (h1 : a ≠ 5) (h2 : a ≠ 6) : (f9_readsClause σ).2 a = σ a := by
  refine fp_to2 ?_
  unfold f9_readsClause
  exact (fr_ite2 ((w_f7_fails _ a h0).trans ((w_f8_open _ _ a h1 h2).trans (w_f7_peek _ a h0))) (fp_of2 (((w_f9_readsClause_c48 _ _ a h0 h1 h2 _ _ _ _).trans ((w_f7_pass _ a h0).trans ((w_f8_open _ _ a h1 h2).trans (w_f7_peek _ a h0)))))))
set_option maxHeartbeats 4000000 in
set_option maxRecDepth 100000 in
theorem c9_readsClause_c48 {l : Launch} {p : Program} {e : Env} {s : State} {m : MethodId} {args : Array Value} {below : List Frame} {meth : Method} {c : Code} {G : GT} (X : CX p s m args meth c cX9_readsClause RX9 7 (some .boolean) G) {E : Bool × SI} (τ : SL) (x1 : Int32) (x2 : Int32) : ∀ (fu : Nat) (v3 : Int32) (v4 : Int32) (σ : SI) (H : Heap) (locs : List Loc) (ls : Array Slot), IX G s H locs σ τ → lv_has ls 7 [(0, .ref (G.2.1 3)), (1, .int x1), (2, .int x2), (3, .int v3), (4, .int v4)] → (Int32.toInt (4 : Int32) + 1 - Int32.toInt v4).toNat < fu → E = (f9_readsClause_c48 x1 x2 fu v3 v4 σ) → W p l e (rmN 4) s m args below meth c H locs 0 0 (MQ below ((Qi G (Ei (b2i E.1) E.2 τ)) s.heap.size) args s 0 0 (AW G s.heap.size)) (F0 m 48 ls []) := by
  intro fu
  induction fu with
  | zero =>
    intro v3 v4 σ H locs ls I hl  hm hE
    exact absurd hm (Nat.not_lt_zero _)
  | succ fu ih =>
    intro v3 v4 σ H locs ls I hl  hm hE
    refine lv_iload X.1 X.2.1 dX9_readsClause_48 (lv_at hl 4 rfl) ?_
    refine lv_iconst (v := 4) X.1 X.2.1 dX9_readsClause_50 (by decide) ?_
    refine lv_icmp_gt (tgt := 152) X.1 X.2.1 dX9_readsClause_51 (by decide) (fun c_2 => ?_) (fun c_2 => ?_)
    · skip
      have hE := ite_t hE c_2
      refine lv_aload_n X.1 X.2.1 dX9_readsClause_152 rfl (lv_at hl 0 rfl) ?_
      refine g9_0 X I (k := 3) (by decide) rfl lf_X9_9 dX9_readsClause_153 ?_
      refine r_ei I (r_runV X I pk_X7_fails (c7_fails l G _ _) lm_X9_48 (by decide) (cl_7 rfl) rfl rfl rfl hl.1 rfl (Nat.le_of_ble_eq_true rfl) dX9_readsClause_156 ⟨Nat.le_of_ble_eq_true rfl, Nat.le_of_ble_eq_true rfl⟩ ⟨Nat.le_refl 0, Nat.le_refl 0⟩) (fun H locs I => ?_)
      have h9 := hE
      exact r_zret X I (b2i_nar _) (e_i (congrArg b2i (congrArg Prod.fst h9)).symm (congrArg Prod.snd h9).symm rfl) dX9_readsClause_159
    · skip
      have hE := ite_f hE c_2
      refine lv_aload_n X.1 X.2.1 dX9_readsClause_54 rfl (lv_at hl 0 rfl) ?_
      refine g9_0 X I (k := 3) (by decide) rfl lf_X9_9 dX9_readsClause_55 ?_
      refine r_ei I (r_runV X I pk_X7_peek (c7_peek l G _ _) lm_X9_34 (by decide) (cl_7 rfl) rfl rfl rfl hl.1 rfl (Nat.le_of_ble_eq_true rfl) dX9_readsClause_58 ⟨Nat.le_of_ble_eq_true rfl, Nat.le_of_ble_eq_true rfl⟩ ⟨Nat.le_refl 0, Nat.le_refl 0⟩) (fun H locs I => ?_)
      refine lv_istore (lv' := [(5, .int _), (0, .ref _), (1, .int _), (2, .int _), (3, .int _), (4, .int _)]) X.1 X.2.1 dX9_readsClause_61 hl (by decide) rfl (fun ls hl => ?_)
      refine lv_iload X.1 X.2.1 dX9_readsClause_63 (lv_at hl 0 rfl) ?_
      refine lv_iconst (v := (-1)) X.1 X.2.1 dX9_readsClause_65 (by decide) ?_
      refine lv_icmp_eq (tgt := 76) X.1 X.2.1 dX9_readsClause_66 (by decide) (fun c_3 => ?_) (fun c_3 => ?_)
      · skip
        have hE := ite_t hE c_3
        refine lv_iconst (v := 1) X.1 X.2.1 dX9_readsClause_76 (by decide) ?_
        have h9 := hE
        exact r_zret X I rfl (e_i (congrArg b2i (pr_fst (a := true) h9)) (pr_snd h9) rfl) dX9_readsClause_77
      · skip
        have hE := ite_f hE c_3
        refine lv_iload X.1 X.2.1 dX9_readsClause_69 (lv_at hl 0 rfl) ?_
        refine lv_bipush (v := 59) X.1 X.2.1 dX9_readsClause_71 (by decide) ?_
        refine lv_icmp_ne (tgt := 78) X.1 X.2.1 dX9_readsClause_73 (by decide) (fun c_4 => ?_) (fun c_4 => ?_)
        · skip
          have hE := ite_f hE c_4
          refine lv_iload_n X.1 X.2.1 dX9_readsClause_78 rfl (lv_at hl 2 rfl) ?_
          refine lv_iload X.1 X.2.1 dX9_readsClause_79 (lv_at hl 0 rfl) ?_
          refine r_ei I (r_runS X I pk_X9_itemOf (c9_itemOf l G _ _ _ _) lm_X9_66 rfl hl.1 rfl (Nat.le_of_ble_eq_true rfl) dX9_readsClause_81 ⟨Nat.le_of_ble_eq_true rfl, Nat.le_of_ble_eq_true rfl⟩ ⟨Nat.le_refl 0, Nat.le_refl 0⟩) (fun H locs I => ?_)
          refine lv_istore (lv' := [(6, .int _), (5, .int _), (0, .ref _), (1, .int _), (2, .int _), (3, .int _), (4, .int _)]) X.1 X.2.1 dX9_readsClause_84 hl (by decide) rfl (fun ls hl => ?_)
          refine lv_iload X.1 X.2.1 dX9_readsClause_86 (lv_at hl 0 rfl) ?_
          refine lv_iconst (v := (-1)) X.1 X.2.1 dX9_readsClause_88 (by decide) ?_
          refine lv_icmp_eq (tgt := 101) X.1 X.2.1 dX9_readsClause_89 (by decide) (fun c_5 => ?_) (fun c_5 => ?_)
          · skip
            have hE := ite_t hE c_5
            refine lv_aload_n X.1 X.2.1 dX9_readsClause_101 rfl (lv_at hl 2 rfl) ?_
            refine g9_0 X I (k := 3) (by decide) rfl lf_X9_9 dX9_readsClause_102 ?_
            refine r_ei I (r_runV X I pk_X7_fails (c7_fails l G _ _) lm_X9_48 (by decide) (cl_7 rfl) rfl rfl rfl hl.1 rfl (Nat.le_of_ble_eq_true rfl) dX9_readsClause_105 ⟨Nat.le_of_ble_eq_true rfl, Nat.le_of_ble_eq_true rfl⟩ ⟨Nat.le_refl 0, Nat.le_refl 0⟩) (fun H locs I => ?_)
            have h9 := hE
            exact r_zret X I (b2i_nar _) (e_i (congrArg b2i (congrArg Prod.fst h9)).symm (congrArg Prod.snd h9).symm rfl) dX9_readsClause_108
          · skip
            have hE := ite_f hE c_5
            refine lv_iload_n X.1 X.2.1 dX9_readsClause_92 rfl (lv_at hl 5 rfl) ?_
            refine lv_iload X.1 X.2.1 dX9_readsClause_93 (lv_at hl 0 rfl) ?_
            refine r_ei I (r_runN X I pk_X11_hasBit (c11_hasBit l G _ _ _ _) (by decide +kernel) rfl hl.1 rfl (Nat.le_of_ble_eq_true rfl) dX9_readsClause_95 ⟨Nat.le_of_ble_eq_true rfl, Nat.le_of_ble_eq_true rfl⟩ ⟨Nat.le_refl 0, Nat.le_refl 0⟩) (fun H locs I => ?_)
            refine lv_if_eq (tgt := 109) X.1 X.2.1 dX9_readsClause_98 (by decide) (fun c_6 => ?_) (fun c_6 => ?_)
            · skip
              have hE := ite_f hE (b2i_n c_6)
              refine lv_iload_n X.1 X.2.1 dX9_readsClause_109 rfl (lv_at hl 5 rfl) ?_
              refine lv_iconst (v := 1) X.1 X.2.1 dX9_readsClause_110 (by decide) ?_
              refine lv_iload X.1 X.2.1 dX9_readsClause_111 (lv_at hl 0 rfl) ?_
              refine lv_ishl X.1 X.2.1 dX9_readsClause_113 ?_
              refine lv_ior X.1 X.2.1 dX9_readsClause_114 ?_
              refine lv_istore_n (lv' := [(3, .int _), (6, .int _), (5, .int _), (0, .ref _), (1, .int _), (2, .int _), (4, .int _)]) X.1 X.2.1 dX9_readsClause_115 rfl hl (by decide) rfl (fun ls hl => ?_)
              refine lv_aload_n X.1 X.2.1 dX9_readsClause_116 rfl (lv_at hl 3 rfl) ?_
              refine g9_0 X I (k := 3) (by decide) rfl lf_X9_9 dX9_readsClause_117 ?_
              refine r_ev I (r_runV X I pk_X7_pass (c7_pass l G _ _) lm_X9_63 (by decide) (cl_7 rfl) rfl rfl rfl hl.1 rfl (Nat.le_of_ble_eq_true rfl) dX9_readsClause_120 ⟨Nat.le_of_ble_eq_true rfl, Nat.le_of_ble_eq_true rfl⟩ ⟨Nat.le_refl 0, Nat.le_refl 0⟩) (fun H locs I => ?_)
              refine lv_aload_n X.1 X.2.1 dX9_readsClause_123 rfl (lv_at hl 3 rfl) ?_
              refine lv_iload_n X.1 X.2.1 dX9_readsClause_124 rfl (lv_at hl 5 rfl) ?_
              refine lv_iload X.1 X.2.1 dX9_readsClause_125 (lv_at hl 1 rfl) ?_
              refine lv_iadd X.1 X.2.1 dX9_readsClause_127 ?_
              refine r_sget X I 4 (by decide) (index := 74) (by decide +kernel) dX9_readsClause_128 ?_
              refine lv_iload_n X.1 X.2.1 dX9_readsClause_131 rfl (lv_at hl 4 rfl) ?_
              refine r_ei I (r_runN X I pk_X11_cell (c11_cellS l G 4 (by decide) _ _ _) (by decide +kernel) rfl hl.1 rfl (Nat.le_of_ble_eq_true rfl) dX9_readsClause_132 ⟨Nat.le_of_ble_eq_true rfl, Nat.le_of_ble_eq_true rfl⟩ ⟨Nat.le_refl 0, Nat.le_refl 0⟩) (fun H locs I => ?_)
              refine lv_iload X.1 X.2.1 dX9_readsClause_135 (lv_at hl 1 rfl) ?_
              refine lv_iadd X.1 X.2.1 dX9_readsClause_137 ?_
              refine r_ei I (r_runV X I pk_X9_readsNumber (c9_readsNumber l G _ _ _ _) lm_X9_80 (by decide) (cl_9 rfl) rfl rfl rfl hl.1 rfl (Nat.le_of_ble_eq_true rfl) dX9_readsClause_138 ⟨Nat.le_of_ble_eq_true rfl, Nat.le_of_ble_eq_true rfl⟩ ⟨Nat.le_refl 0, Nat.le_refl 0⟩) (fun H locs I => ?_)
              refine lv_if_ne (tgt := 146) X.1 X.2.1 dX9_readsClause_141 (by decide) (fun c_7 => ?_) (fun c_7 => ?_)
              · skip
                have hE := ite_t hE (b2i_y c_7)
                refine lv_iinc (v := _ + 1) (lv' := [(4, .int _), (3, .int _), (6, .int _), (5, .int _), (0, .ref _), (1, .int _), (2, .int _)]) X.1 X.2.1 dX9_readsClause_146 hl (k := 6) rfl rfl (by decide) rfl (fun ls hl => ?_)
                refine lv_goto (tgt := 48) X.1 X.2.1 dX9_readsClause_149 (by decide) ?_
                exact ih _ _ _ _ _ _ I (lv_sub hl [4, 5, 6, 1, 0] rfl) (Nat.lt_of_lt_of_le (up_decE (by decide) c_2) (Nat.le_of_lt_succ hm)) (hE.trans (rfl))
              · skip
                have hE := ite_f hE (b2i_n c_7)
                refine lv_iconst (v := 0) X.1 X.2.1 dX9_readsClause_144 (by decide) ?_
                have h9 := hE
                exact r_zret X I rfl (e_i (congrArg b2i (pr_fst (a := false) h9)) (pr_snd h9) rfl) dX9_readsClause_145
            · skip
              have hE := ite_t hE (b2i_y c_6)
              refine lv_aload_n X.1 X.2.1 dX9_readsClause_101 rfl (lv_at hl 2 rfl) ?_
              refine g9_0 X I (k := 3) (by decide) rfl lf_X9_9 dX9_readsClause_102 ?_
              refine r_ei I (r_runV X I pk_X7_fails (c7_fails l G _ _) lm_X9_48 (by decide) (cl_7 rfl) rfl rfl rfl hl.1 rfl (Nat.le_of_ble_eq_true rfl) dX9_readsClause_105 ⟨Nat.le_of_ble_eq_true rfl, Nat.le_of_ble_eq_true rfl⟩ ⟨Nat.le_refl 0, Nat.le_refl 0⟩) (fun H locs I => ?_)
              have h9 := hE
              exact r_zret X I (b2i_nar _) (e_i (congrArg b2i (congrArg Prod.fst h9)).symm (congrArg Prod.snd h9).symm rfl) dX9_readsClause_108
        · skip
          have hE := ite_t hE c_4
          refine lv_iconst (v := 1) X.1 X.2.1 dX9_readsClause_76 (by decide) ?_
          have h9 := hE
          exact r_zret X I rfl (e_i (congrArg b2i (pr_fst (a := true) h9)) (pr_snd h9) rfl) dX9_readsClause_77
set_option maxHeartbeats 4000000 in
set_option maxRecDepth 100000 in
theorem c9_readsClause (l : Launch) (G : GT) (σ : SI) (τ : SL) : Mc l yX9_readsClause cX9_readsClause 7 (some .boolean) 4 G [.ref (G.2.1 3)] σ τ (Qi G (Ei (b2i (f9_readsClause σ).1) (f9_readsClause σ).2 τ)) := by
  refine m_start (by decide +kernel) (Nat.le_of_ble_eq_true rfl) rfl (fun p e s m args below meth c ls X I hl => ?_)
  have hl : lv_has ls 7 [(0, .ref (G.2.1 3))] := hl
  obtain ⟨E, hE⟩ : ∃ E, E = (f9_readsClause σ) := ⟨_, rfl⟩
  rw [← hE]
  refine r_sget X I 0 (by decide) (index := 51) (by decide +kernel) dX9_readsClause_0 ?_
  refine lv_aload_n X.1 X.2.1 dX9_readsClause_3 rfl (lv_at hl 0 rfl) ?_
  refine g9_0 X I (k := 3) (by decide) rfl lf_X9_9 dX9_readsClause_4 ?_
  refine r_ei I (r_runV X I pk_X7_peek (c7_peek l G _ _) lm_X9_34 (by decide) (cl_7 rfl) rfl rfl rfl hl.1 rfl (Nat.le_of_ble_eq_true rfl) dX9_readsClause_7 ⟨Nat.le_of_ble_eq_true rfl, Nat.le_of_ble_eq_true rfl⟩ ⟨Nat.le_refl 0, Nat.le_refl 0⟩) (fun H locs I => ?_)
  refine r_ei I (r_runN X I pk_X11_indexOf (c11_indexOfS l G 0 (by decide) _ _ _) (by decide +kernel) rfl hl.1 rfl (Nat.le_of_ble_eq_true rfl) dX9_readsClause_10 ⟨Nat.le_of_ble_eq_true rfl, Nat.le_of_ble_eq_true rfl⟩ ⟨Nat.le_refl 0, Nat.le_refl 0⟩) (fun H locs I => ?_)
  refine lv_istore_n (lv' := [(1, .int _), (0, .ref _)]) X.1 X.2.1 dX9_readsClause_13 rfl hl (by decide) rfl (fun ls hl => ?_)
  refine lv_aload_n X.1 X.2.1 dX9_readsClause_14 rfl (lv_at hl 1 rfl) ?_
  refine g9_1 X I (k := 3) (by decide) rfl lf_X9_18 dX9_readsClause_15 ?_
  refine lv_iload_n X.1 X.2.1 dX9_readsClause_18 rfl (lv_at hl 0 rfl) ?_
  refine r_ei I (r_runV X I pk_X8_open (c8_open l G (k := 4) ⟨by decide, rfl, rfl, rfl⟩ _ _ _) lm_X9_59 (by decide) (cl_8 rfl) rfl rfl rfl hl.1 rfl (Nat.le_of_ble_eq_true rfl) dX9_readsClause_19 ⟨Nat.le_of_ble_eq_true rfl, Nat.le_of_ble_eq_true rfl⟩ ⟨Nat.le_refl 0, Nat.le_refl 0⟩) (fun H locs I => ?_)
  refine lv_istore_n (lv' := [(2, .int _), (1, .int _), (0, .ref _)]) X.1 X.2.1 dX9_readsClause_22 rfl hl (by decide) rfl (fun ls hl => ?_)
  refine lv_iload_n X.1 X.2.1 dX9_readsClause_23 rfl (lv_at hl 0 rfl) ?_
  refine lv_iconst (v := (-1)) X.1 X.2.1 dX9_readsClause_24 (by decide) ?_
  refine lv_icmp_ne (tgt := 36) X.1 X.2.1 dX9_readsClause_25 (by decide) (fun c_1 => ?_) (fun c_1 => ?_)
  · skip
    have hE := ite_f hE c_1
    refine lv_aload_n X.1 X.2.1 dX9_readsClause_36 rfl (lv_at hl 2 rfl) ?_
    refine g9_0 X I (k := 3) (by decide) rfl lf_X9_9 dX9_readsClause_37 ?_
    refine r_ev I (r_runV X I pk_X7_pass (c7_pass l G _ _) lm_X9_63 (by decide) (cl_7 rfl) rfl rfl rfl hl.1 rfl (Nat.le_of_ble_eq_true rfl) dX9_readsClause_40 ⟨Nat.le_of_ble_eq_true rfl, Nat.le_of_ble_eq_true rfl⟩ ⟨Nat.le_refl 0, Nat.le_refl 0⟩) (fun H locs I => ?_)
    refine lv_iconst (v := 0) X.1 X.2.1 dX9_readsClause_43 (by decide) ?_
    refine lv_istore_n (lv' := [(3, .int _), (2, .int _), (1, .int _), (0, .ref _)]) X.1 X.2.1 dX9_readsClause_44 rfl hl (by decide) rfl (fun ls hl => ?_)
    refine lv_iconst (v := 0) X.1 X.2.1 dX9_readsClause_45 (by decide) ?_
    refine lv_istore (lv' := [(4, .int _), (3, .int _), (2, .int _), (1, .int _), (0, .ref _)]) X.1 X.2.1 dX9_readsClause_46 hl (by decide) rfl (fun ls hl => ?_)
    exact c9_readsClause_c48 X _ _ _ _ _ _ _ _ _ _ I (lv_sub hl [4, 3, 2, 1, 0] rfl) (fu1_lt _) (hE.trans (rfl))
  · skip
    have hE := ite_t hE c_1
    refine lv_aload_n X.1 X.2.1 dX9_readsClause_28 rfl (lv_at hl 2 rfl) ?_
    refine g9_0 X I (k := 3) (by decide) rfl lf_X9_9 dX9_readsClause_29 ?_
    refine r_ei I (r_runV X I pk_X7_fails (c7_fails l G _ _) lm_X9_48 (by decide) (cl_7 rfl) rfl rfl rfl hl.1 rfl (Nat.le_of_ble_eq_true rfl) dX9_readsClause_32 ⟨Nat.le_of_ble_eq_true rfl, Nat.le_of_ble_eq_true rfl⟩ ⟨Nat.le_refl 0, Nat.le_refl 0⟩) (fun H locs I => ?_)
    have h9 := hE
    exact r_zret X I (b2i_nar _) (e_i (congrArg b2i (congrArg Prod.fst h9)).symm (congrArg Prod.snd h9).symm rfl) dX9_readsClause_35
