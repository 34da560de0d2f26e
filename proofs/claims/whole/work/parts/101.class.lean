noncomputable def f0_copy (k : Nat) (k1 : Nat) (σ : SI) : SI := let s0 := su σ (k + 1) (va_cpy (σ (k1 + 1)) (σ (k + 1)) 0 0 7); let s1 := sp s0 k 1 (s0 k1 1); let s2 := sp s1 k 2 (s1 k1 2); let s3 := sp s2 k 3 (s2 k1 3); let s4 := sp s3 k 4 (s3 k1 4); let s5 := sp s4 k 5 (s4 k1 5); let s6 := sp s5 k 6 (s5 k1 6); let s7 := sp s6 k 7 (s6 k1 7); let s8 := sp s7 k 8 (s7 k1 8); s8
theorem w_f0_copy {k : Nat} {k1 : Nat} (σ : SI) (a : Nat) (h0 : a ≠ (k + 1)) (h1 : a ≠ k) : (f0_copy k k1 σ) a = σ a := by
  unfold f0_copy
  exact ((sp_n h1).trans ((sp_n h1).trans ((sp_n h1).trans ((sp_n h1).trans ((sp_n h1).trans ((sp_n h1).trans ((sp_n h1).trans ((sp_n h1).trans (su_n _ _ h0)))))))))
set_option maxHeartbeats 4000000 in
set_option maxRecDepth 100000 in
theorem c0_copy (l : Launch) (G : GT) {k : Nat} (hk : isDay k) {k1 : Nat} (hk1 : isDay k1) (σ : SI) (τ : SL) : Mc l yX0_copy cX0_copy 2 none 2 G [.ref (G.2.1 k), .ref (G.2.1 k1)] σ τ (Qv G (Ev (f0_copy k k1 σ) τ)) := by
  refine m_start (by decide +kernel) (Nat.le_of_ble_eq_true rfl) rfl (fun p e s m args below meth c ls X I hl => ?_)
  have hl : lv_has ls 2 [(0, .ref (G.2.1 k)), (1, .ref (G.2.1 k1))] := hl
  obtain ⟨E, hE⟩ : ∃ E, E = (f0_copy k k1 σ) := ⟨_, rfl⟩
  rw [← hE]
  refine lv_aload_n X.1 X.2.1 dX0_copy_0 rfl (lv_at hl 1 rfl) ?_
  refine g0_0 X I (k := k1) (Nat.lt_of_le_of_lt (Nat.add_le_add_left (show 0 ≤ 1 by decide) k1) hk1.1) hk1.2.1 lf_X0_9 dX0_copy_1 ?_
  refine lv_iconst (v := 0) X.1 X.2.1 dX0_copy_4 (by decide) ?_
  refine lv_aload_n X.1 X.2.1 dX0_copy_5 rfl (lv_at hl 0 rfl) ?_
  refine g0_0 X I (k := k) (Nat.lt_of_le_of_lt (Nat.add_le_add_left (show 0 ≤ 1 by decide) k) hk.1) hk.2.1 lf_X0_9 dX0_copy_6 ?_
  refine lv_iconst (v := 0) X.1 X.2.1 dX0_copy_9 (by decide) ?_
  refine lv_bipush (v := 7) X.1 X.2.1 dX0_copy_10 (by decide) ?_
  refine r_copy X I hl.1 (k0 := (k1 + 1)) (n0 := 7) (k1 := (k + 1)) (n1 := 7) (Nat.lt_of_le_of_lt (Nat.add_le_add_left (show 1 ≤ 1 by decide) k1) hk1.1) hk1.2.2 (Nat.lt_of_le_of_lt (Nat.add_le_add_left (show 1 ≤ 1 by decide) k) hk.1) hk.2.2 (N := 7) (n := 7) (by decide) (by decide) (by decide) rfl (Nat.le_of_ble_eq_true rfl) (Nat.le_of_ble_eq_true rfl) lm_X0_57 dX0_copy_12 (Nat.le_of_ble_eq_true rfl) (Nat.le_of_ble_eq_true rfl) (fun H locs I => ?_)
  refine lv_aload_n X.1 X.2.1 dX0_copy_15 rfl (lv_at hl 0 rfl) ?_
  refine lv_aload_n X.1 X.2.1 dX0_copy_16 rfl (lv_at hl 1 rfl) ?_
  refine g0_1 X I (k := k1) (Nat.lt_of_le_of_lt (Nat.add_le_add_left (show 0 ≤ 1 by decide) k1) hk1.1) hk1.2.1 lf_X0_33 dX0_copy_17 ?_
  refine p0_1 X I (k := k) (Nat.lt_of_le_of_lt (Nat.add_le_add_left (show 0 ≤ 1 by decide) k) hk.1) hk.2.1 lf_X0_33 dX0_copy_20 (fun H locs I => ?_)
  refine lv_aload_n X.1 X.2.1 dX0_copy_23 rfl (lv_at hl 0 rfl) ?_
  refine lv_aload_n X.1 X.2.1 dX0_copy_24 rfl (lv_at hl 1 rfl) ?_
  refine g0_2 X I (k := k1) (Nat.lt_of_le_of_lt (Nat.add_le_add_left (show 0 ≤ 1 by decide) k1) hk1.1) hk1.2.1 lf_X0_48 dX0_copy_25 ?_
  refine p0_2 X I (k := k) (Nat.lt_of_le_of_lt (Nat.add_le_add_left (show 0 ≤ 1 by decide) k) hk.1) hk.2.1 lf_X0_48 dX0_copy_28 (fun H locs I => ?_)
  refine lv_aload_n X.1 X.2.1 dX0_copy_31 rfl (lv_at hl 0 rfl) ?_
  refine lv_aload_n X.1 X.2.1 dX0_copy_32 rfl (lv_at hl 1 rfl) ?_
  refine g0_3 X I (k := k1) (Nat.lt_of_le_of_lt (Nat.add_le_add_left (show 0 ≤ 1 by decide) k1) hk1.1) hk1.2.1 lf_X0_51 dX0_copy_33 ?_
  refine p0_3 X I (k := k) (Nat.lt_of_le_of_lt (Nat.add_le_add_left (show 0 ≤ 1 by decide) k) hk.1) hk.2.1 lf_X0_51 dX0_copy_36 (fun H locs I => ?_)
  refine lv_aload_n X.1 X.2.1 dX0_copy_39 rfl (lv_at hl 0 rfl) ?_
  refine lv_aload_n X.1 X.2.1 dX0_copy_40 rfl (lv_at hl 1 rfl) ?_
  refine g0_4 X I (k := k1) (Nat.lt_of_le_of_lt (Nat.add_le_add_left (show 0 ≤ 1 by decide) k1) hk1.1) hk1.2.1 lf_X0_15 dX0_copy_41 ?_
  refine p0_4 X I (k := k) (Nat.lt_of_le_of_lt (Nat.add_le_add_left (show 0 ≤ 1 by decide) k) hk.1) hk.2.1 lf_X0_15 dX0_copy_44 (fun H locs I => ?_)
  refine lv_aload_n X.1 X.2.1 dX0_copy_47 rfl (lv_at hl 0 rfl) ?_
  refine lv_aload_n X.1 X.2.1 dX0_copy_48 rfl (lv_at hl 1 rfl) ?_
  refine g0_5 X I (k := k1) (Nat.lt_of_le_of_lt (Nat.add_le_add_left (show 0 ≤ 1 by decide) k1) hk1.1) hk1.2.1 lf_X0_54 dX0_copy_49 ?_
  refine p0_5 X I (k := k) (Nat.lt_of_le_of_lt (Nat.add_le_add_left (show 0 ≤ 1 by decide) k) hk.1) hk.2.1 lf_X0_54 dX0_copy_52 (fun H locs I => ?_)
  refine lv_aload_n X.1 X.2.1 dX0_copy_55 rfl (lv_at hl 0 rfl) ?_
  refine lv_aload_n X.1 X.2.1 dX0_copy_56 rfl (lv_at hl 1 rfl) ?_
  refine g0_6 X I (k := k1) (Nat.lt_of_le_of_lt (Nat.add_le_add_left (show 0 ≤ 1 by decide) k1) hk1.1) hk1.2.1 lf_X0_36 dX0_copy_57 ?_
  refine p0_6 X I (k := k) (Nat.lt_of_le_of_lt (Nat.add_le_add_left (show 0 ≤ 1 by decide) k) hk.1) hk.2.1 lf_X0_36 dX0_copy_60 (fun H locs I => ?_)
  refine lv_aload_n X.1 X.2.1 dX0_copy_63 rfl (lv_at hl 0 rfl) ?_
  refine lv_aload_n X.1 X.2.1 dX0_copy_64 rfl (lv_at hl 1 rfl) ?_
  refine g0_7 X I (k := k1) (Nat.lt_of_le_of_lt (Nat.add_le_add_left (show 0 ≤ 1 by decide) k1) hk1.1) hk1.2.1 lf_X0_39 dX0_copy_65 ?_
  refine p0_7 X I (k := k) (Nat.lt_of_le_of_lt (Nat.add_le_add_left (show 0 ≤ 1 by decide) k) hk.1) hk.2.1 lf_X0_39 dX0_copy_68 (fun H locs I => ?_)
  refine lv_aload_n X.1 X.2.1 dX0_copy_71 rfl (lv_at hl 0 rfl) ?_
  refine lv_aload_n X.1 X.2.1 dX0_copy_72 rfl (lv_at hl 1 rfl) ?_
  refine g0_8 X I (k := k1) (Nat.lt_of_le_of_lt (Nat.add_le_add_left (show 0 ≤ 1 by decide) k1) hk1.1) hk1.2.1 lf_X0_42 dX0_copy_73 ?_
  refine p0_8 X I (k := k) (Nat.lt_of_le_of_lt (Nat.add_le_add_left (show 0 ≤ 1 by decide) k) hk.1) hk.2.1 lf_X0_42 dX0_copy_76 (fun H locs I => ?_)
  have h9 := hE
  exact r_vret X I (e_v h9.symm rfl) dX0_copy_79
noncomputable def f0_grievanceOf (k : Nat) (σ : SI) (x1 : Int32) : Int32 := (f11_cell (k + 1) 7 σ x1)
set_option maxHeartbeats 4000000 in
set_option maxRecDepth 100000 in
theorem c0_grievanceOf (l : Launch) (G : GT) {k : Nat} (hk : isDay k) (σ : SI) (τ : SL) (x1 : Int32) : Mc l yX0_grievanceOf cX0_grievanceOf 2 (some .int) 1 G [.ref (G.2.1 k), .int x1] σ τ (Qi G (Ei (f0_grievanceOf k σ x1) σ τ)) := by
  refine m_start (by decide +kernel) (Nat.le_of_ble_eq_true rfl) rfl (fun p e s m args below meth c ls X I hl => ?_)
  have hl : lv_has ls 2 [(0, .ref (G.2.1 k)), (1, .int x1)] := hl
  obtain ⟨E, hE⟩ : ∃ E, E = (f0_grievanceOf k σ x1) := ⟨_, rfl⟩
  rw [← hE]
  refine lv_aload_n X.1 X.2.1 dX0_grievanceOf_0 rfl (lv_at hl 0 rfl) ?_
  refine g0_0 X I (k := k) (Nat.lt_of_le_of_lt (Nat.add_le_add_left (show 0 ≤ 1 by decide) k) hk.1) hk.2.1 lf_X0_9 dX0_grievanceOf_1 ?_
  refine lv_iload_n X.1 X.2.1 dX0_grievanceOf_4 rfl (lv_at hl 1 rfl) ?_
  refine r_ei I (r_runN X I pk_X11_cell (c11_cell l G (k := (k + 1)) (n := 7) (Nat.lt_of_le_of_lt (Nat.add_le_add_left (show 1 ≤ 1 by decide) k) hk.1) hk.2.2 (by decide) _ _ _) (by decide +kernel) rfl hl.1 rfl (Nat.le_of_ble_eq_true rfl) dX0_grievanceOf_5 ⟨Nat.le_of_ble_eq_true rfl, Nat.le_of_ble_eq_true rfl⟩ ⟨Nat.le_refl 0, Nat.le_refl 0⟩) (fun H locs I => ?_)
  have h9 := hE
  exact r_iret X I (e_i h9.symm rfl rfl) dX0_grievanceOf_8
noncomputable def f11_hasBit (x0 : Int32) (x1 : Int32) : Bool := if x1 < (0 : Int32) then false else (if (31 : Int32) ≤ x1 then false else (if ((x0 >>> (x1 &&& 31)) &&& (1 : Int32)) = (1 : Int32) then true else false))
set_option maxHeartbeats 4000000 in
set_option maxRecDepth 100000 in
theorem c11_hasBit (l : Launch) (G : GT) (σ : SI) (τ : SL) (x0 : Int32) (x1 : Int32) : Mc l yX11_hasBit cX11_hasBit 2 (some .boolean) 0 G [.int x0, .int x1] σ τ (Qi G (Ei (b2i (f11_hasBit x0 x1)) σ τ)) := by
  refine m_start (by decide +kernel) (Nat.le_of_ble_eq_true rfl) rfl (fun p e s m args below meth c ls X I hl => ?_)
  have hl : lv_has ls 2 [(0, .int x0), (1, .int x1)] := hl
  obtain ⟨E, hE⟩ : ∃ E, E = (f11_hasBit x0 x1) := ⟨_, rfl⟩
  rw [← hE]
  refine lv_iload_n X.1 X.2.1 dX11_hasBit_0 rfl (lv_at hl 1 rfl) ?_
  refine lv_if_lt (tgt := 23) X.1 X.2.1 dX11_hasBit_1 (by decide) (fun c_1 => ?_) (fun c_1 => ?_)
  · skip
    have hE := ite_t hE c_1
    refine lv_iconst (v := 0) X.1 X.2.1 dX11_hasBit_23 (by decide) ?_
    have h9 := hE
    exact r_zret X I rfl (e_i (congrArg b2i h9).symm rfl rfl) dX11_hasBit_24
  · skip
    have hE := ite_f hE c_1
    refine lv_iload_n X.1 X.2.1 dX11_hasBit_4 rfl (lv_at hl 1 rfl) ?_
    refine lv_bipush (v := 31) X.1 X.2.1 dX11_hasBit_5 (by decide) ?_
    refine lv_icmp_ge (tgt := 23) X.1 X.2.1 dX11_hasBit_7 (by decide) (fun c_2 => ?_) (fun c_2 => ?_)
    · skip
      have hE := ite_t hE c_2
      refine lv_iconst (v := 0) X.1 X.2.1 dX11_hasBit_23 (by decide) ?_
      have h9 := hE
      exact r_zret X I rfl (e_i (congrArg b2i h9).symm rfl rfl) dX11_hasBit_24
    · skip
      have hE := ite_f hE c_2
      refine lv_iload_n X.1 X.2.1 dX11_hasBit_10 rfl (lv_at hl 0 rfl) ?_
      refine lv_iload_n X.1 X.2.1 dX11_hasBit_11 rfl (lv_at hl 1 rfl) ?_
      refine lv_ishr X.1 X.2.1 dX11_hasBit_12 ?_
      refine lv_iconst (v := 1) X.1 X.2.1 dX11_hasBit_13 (by decide) ?_
      refine lv_iand X.1 X.2.1 dX11_hasBit_14 ?_
      refine lv_iconst (v := 1) X.1 X.2.1 dX11_hasBit_15 (by decide) ?_
      refine lv_icmp_ne (tgt := 23) X.1 X.2.1 dX11_hasBit_16 (by decide) (fun c_3 => ?_) (fun c_3 => ?_)
      · skip
        have hE := ite_f hE c_3
        refine lv_iconst (v := 0) X.1 X.2.1 dX11_hasBit_23 (by decide) ?_
        have h9 := hE
        exact r_zret X I rfl (e_i (congrArg b2i h9).symm rfl rfl) dX11_hasBit_24
      · skip
        have hE := ite_t hE c_3
        refine lv_iconst (v := 1) X.1 X.2.1 dX11_hasBit_19 (by decide) ?_
        refine lv_goto (tgt := 24) X.1 X.2.1 dX11_hasBit_20 (by decide) ?_
        have h9 := hE
        exact r_zret X I rfl (e_i (congrArg b2i h9).symm rfl rfl) dX11_hasBit_24
noncomputable def f0_wasAt (k : Nat) (σ : SI) (x1 : Int32) : Bool := (f11_hasBit (σ k 5) x1)
set_option maxHeartbeats 4000000 in
set_option maxRecDepth 100000 in
theorem c0_wasAt (l : Launch) (G : GT) {k : Nat} (hk : isDay k) (σ : SI) (τ : SL) (x1 : Int32) : Mc l yX0_wasAt cX0_wasAt 2 (some .boolean) 1 G [.ref (G.2.1 k), .int x1] σ τ (Qi G (Ei (b2i (f0_wasAt k σ x1)) σ τ)) := by
  refine m_start (by decide +kernel) (Nat.le_of_ble_eq_true rfl) rfl (fun p e s m args below meth c ls X I hl => ?_)
  have hl : lv_has ls 2 [(0, .ref (G.2.1 k)), (1, .int x1)] := hl
  obtain ⟨E, hE⟩ : ∃ E, E = (f0_wasAt k σ x1) := ⟨_, rfl⟩
  rw [← hE]
  refine lv_aload_n X.1 X.2.1 dX0_wasAt_0 rfl (lv_at hl 0 rfl) ?_
  refine g0_5 X I (k := k) (Nat.lt_of_le_of_lt (Nat.add_le_add_left (show 0 ≤ 1 by decide) k) hk.1) hk.2.1 lf_X0_54 dX0_wasAt_1 ?_
  refine lv_iload_n X.1 X.2.1 dX0_wasAt_4 rfl (lv_at hl 1 rfl) ?_
  refine r_ei I (r_runN X I pk_X11_hasBit (c11_hasBit l G _ _ _ _) (by decide +kernel) rfl hl.1 rfl (Nat.le_of_ble_eq_true rfl) dX0_wasAt_5 ⟨Nat.le_of_ble_eq_true rfl, Nat.le_of_ble_eq_true rfl⟩ ⟨Nat.le_refl 0, Nat.le_refl 0⟩) (fun H locs I => ?_)
  have h9 := hE
  exact r_zret X I (b2i_nar _) (e_i (congrArg b2i h9).symm rfl rfl) dX0_wasAt_8
noncomputable def fbitCount (x0 : Int32) : Int32 := ((((((((x0 - (((Int32.toUInt32 x0 >>> (Int32.toUInt32 (1 : Int32) &&& Int32.toUInt32 31)).toInt32) &&& (1431655765 : Int32))) &&& (858993459 : Int32)) + (((Int32.toUInt32 (x0 - (((Int32.toUInt32 x0 >>> (Int32.toUInt32 (1 : Int32) &&& Int32.toUInt32 31)).toInt32) &&& (1431655765 : Int32))) >>> (Int32.toUInt32 (2 : Int32) &&& Int32.toUInt32 31)).toInt32) &&& (858993459 : Int32))) + ((Int32.toUInt32 (((x0 - (((Int32.toUInt32 x0 >>> (Int32.toUInt32 (1 : Int32) &&& Int32.toUInt32 31)).toInt32) &&& (1431655765 : Int32))) &&& (858993459 : Int32)) + (((Int32.toUInt32 (x0 - (((Int32.toUInt32 x0 >>> (Int32.toUInt32 (1 : Int32) &&& Int32.toUInt32 31)).toInt32) &&& (1431655765 : Int32))) >>> (Int32.toUInt32 (2 : Int32) &&& Int32.toUInt32 31)).toInt32) &&& (858993459 : Int32))) >>> (Int32.toUInt32 (4 : Int32) &&& Int32.toUInt32 31)).toInt32)) &&& (252645135 : Int32)) + ((Int32.toUInt32 (((((x0 - (((Int32.toUInt32 x0 >>> (Int32.toUInt32 (1 : Int32) &&& Int32.toUInt32 31)).toInt32) &&& (1431655765 : Int32))) &&& (858993459 : Int32)) + (((Int32.toUInt32 (x0 - (((Int32.toUInt32 x0 >>> (Int32.toUInt32 (1 : Int32) &&& Int32.toUInt32 31)).toInt32) &&& (1431655765 : Int32))) >>> (Int32.toUInt32 (2 : Int32) &&& Int32.toUInt32 31)).toInt32) &&& (858993459 : Int32))) + ((Int32.toUInt32 (((x0 - (((Int32.toUInt32 x0 >>> (Int32.toUInt32 (1 : Int32) &&& Int32.toUInt32 31)).toInt32) &&& (1431655765 : Int32))) &&& (858993459 : Int32)) + (((Int32.toUInt32 (x0 - (((Int32.toUInt32 x0 >>> (Int32.toUInt32 (1 : Int32) &&& Int32.toUInt32 31)).toInt32) &&& (1431655765 : Int32))) >>> (Int32.toUInt32 (2 : Int32) &&& Int32.toUInt32 31)).toInt32) &&& (858993459 : Int32))) >>> (Int32.toUInt32 (4 : Int32) &&& Int32.toUInt32 31)).toInt32)) &&& (252645135 : Int32)) >>> (Int32.toUInt32 (8 : Int32) &&& Int32.toUInt32 31)).toInt32)) + ((Int32.toUInt32 ((((((x0 - (((Int32.toUInt32 x0 >>> (Int32.toUInt32 (1 : Int32) &&& Int32.toUInt32 31)).toInt32) &&& (1431655765 : Int32))) &&& (858993459 : Int32)) + (((Int32.toUInt32 (x0 - (((Int32.toUInt32 x0 >>> (Int32.toUInt32 (1 : Int32) &&& Int32.toUInt32 31)).toInt32) &&& (1431655765 : Int32))) >>> (Int32.toUInt32 (2 : Int32) &&& Int32.toUInt32 31)).toInt32) &&& (858993459 : Int32))) + ((Int32.toUInt32 (((x0 - (((Int32.toUInt32 x0 >>> (Int32.toUInt32 (1 : Int32) &&& Int32.toUInt32 31)).toInt32) &&& (1431655765 : Int32))) &&& (858993459 : Int32)) + (((Int32.toUInt32 (x0 - (((Int32.toUInt32 x0 >>> (Int32.toUInt32 (1 : Int32) &&& Int32.toUInt32 31)).toInt32) &&& (1431655765 : Int32))) >>> (Int32.toUInt32 (2 : Int32) &&& Int32.toUInt32 31)).toInt32) &&& (858993459 : Int32))) >>> (Int32.toUInt32 (4 : Int32) &&& Int32.toUInt32 31)).toInt32)) &&& (252645135 : Int32)) + ((Int32.toUInt32 (((((x0 - (((Int32.toUInt32 x0 >>> (Int32.toUInt32 (1 : Int32) &&& Int32.toUInt32 31)).toInt32) &&& (1431655765 : Int32))) &&& (858993459 : Int32)) + (((Int32.toUInt32 (x0 - (((Int32.toUInt32 x0 >>> (Int32.toUInt32 (1 : Int32) &&& Int32.toUInt32 31)).toInt32) &&& (1431655765 : Int32))) >>> (Int32.toUInt32 (2 : Int32) &&& Int32.toUInt32 31)).toInt32) &&& (858993459 : Int32))) + ((Int32.toUInt32 (((x0 - (((Int32.toUInt32 x0 >>> (Int32.toUInt32 (1 : Int32) &&& Int32.toUInt32 31)).toInt32) &&& (1431655765 : Int32))) &&& (858993459 : Int32)) + (((Int32.toUInt32 (x0 - (((Int32.toUInt32 x0 >>> (Int32.toUInt32 (1 : Int32) &&& Int32.toUInt32 31)).toInt32) &&& (1431655765 : Int32))) >>> (Int32.toUInt32 (2 : Int32) &&& Int32.toUInt32 31)).toInt32) &&& (858993459 : Int32))) >>> (Int32.toUInt32 (4 : Int32) &&& Int32.toUInt32 31)).toInt32)) &&& (252645135 : Int32)) >>> (Int32.toUInt32 (8 : Int32) &&& Int32.toUInt32 31)).toInt32)) >>> (Int32.toUInt32 (16 : Int32) &&& Int32.toUInt32 31)).toInt32)) &&& (63 : Int32))
set_option maxHeartbeats 4000000 in
set_option maxRecDepth 100000 in
theorem cbitCount (l : Launch) (G : GT) (σ : SI) (τ : SL) (x0 : Int32) : Mc l yJ6_bitCount_0f7a4 cJ6_bitCount_0f7a4 1 (some .int) 0 G [.int x0] σ τ (Qi G (Ei (fbitCount x0) σ τ)) := by
  refine m_start (by decide +kernel) (Nat.le_of_ble_eq_true rfl) rfl (fun p e s m args below meth c ls X I hl => ?_)
  have hl : lv_has ls 1 [(0, .int x0)] := hl
  obtain ⟨E, hE⟩ : ∃ E, E = (fbitCount x0) := ⟨_, rfl⟩
  rw [← hE]
  refine lv_iload_n X.1 X.2.1 dJ6_bitCount_0f7a4_0 rfl (lv_at hl 0 rfl) ?_
  refine lv_iload_n X.1 X.2.1 dJ6_bitCount_0f7a4_1 rfl (lv_at hl 0 rfl) ?_
  refine lv_iconst (v := 1) X.1 X.2.1 dJ6_bitCount_0f7a4_2 (by decide) ?_
  refine lv_iushr X.1 X.2.1 dJ6_bitCount_0f7a4_3 rfl ?_
  refine lv_ldcw X.1 X.2.1 (v := 1431655765) X.2.2.2.2.1 (X.2.2.2.1 _ lq_J6_265) dJ6_bitCount_0f7a4_4 ?_
  refine lv_iand X.1 X.2.1 dJ6_bitCount_0f7a4_7 ?_
  refine lv_isub X.1 X.2.1 dJ6_bitCount_0f7a4_8 ?_
  refine lv_istore_n (lv' := [(0, .int _)]) X.1 X.2.1 dJ6_bitCount_0f7a4_9 rfl hl (by decide) rfl (fun ls hl => ?_)
  refine lv_iload_n X.1 X.2.1 dJ6_bitCount_0f7a4_10 rfl (lv_at hl 0 rfl) ?_
  refine lv_ldcw X.1 X.2.1 (v := 858993459) X.2.2.2.2.1 (X.2.2.2.1 _ lq_J6_266) dJ6_bitCount_0f7a4_11 ?_
  refine lv_iand X.1 X.2.1 dJ6_bitCount_0f7a4_14 ?_
  refine lv_iload_n X.1 X.2.1 dJ6_bitCount_0f7a4_15 rfl (lv_at hl 0 rfl) ?_
  refine lv_iconst (v := 2) X.1 X.2.1 dJ6_bitCount_0f7a4_16 (by decide) ?_
  refine lv_iushr X.1 X.2.1 dJ6_bitCount_0f7a4_17 rfl ?_
  refine lv_ldcw X.1 X.2.1 (v := 858993459) X.2.2.2.2.1 (X.2.2.2.1 _ lq_J6_266) dJ6_bitCount_0f7a4_18 ?_
  refine lv_iand X.1 X.2.1 dJ6_bitCount_0f7a4_21 ?_
  refine lv_iadd X.1 X.2.1 dJ6_bitCount_0f7a4_22 ?_
  refine lv_istore_n (lv' := [(0, .int _)]) X.1 X.2.1 dJ6_bitCount_0f7a4_23 rfl hl (by decide) rfl (fun ls hl => ?_)
  refine lv_iload_n X.1 X.2.1 dJ6_bitCount_0f7a4_24 rfl (lv_at hl 0 rfl) ?_
  refine lv_iload_n X.1 X.2.1 dJ6_bitCount_0f7a4_25 rfl (lv_at hl 0 rfl) ?_
  refine lv_iconst (v := 4) X.1 X.2.1 dJ6_bitCount_0f7a4_26 (by decide) ?_
  refine lv_iushr X.1 X.2.1 dJ6_bitCount_0f7a4_27 rfl ?_
  refine lv_iadd X.1 X.2.1 dJ6_bitCount_0f7a4_28 ?_
  refine lv_ldcw X.1 X.2.1 (v := 252645135) X.2.2.2.2.1 (X.2.2.2.1 _ lq_J6_267) dJ6_bitCount_0f7a4_29 ?_
  refine lv_iand X.1 X.2.1 dJ6_bitCount_0f7a4_32 ?_
  refine lv_istore_n (lv' := [(0, .int _)]) X.1 X.2.1 dJ6_bitCount_0f7a4_33 rfl hl (by decide) rfl (fun ls hl => ?_)
  refine lv_iload_n X.1 X.2.1 dJ6_bitCount_0f7a4_34 rfl (lv_at hl 0 rfl) ?_
  refine lv_iload_n X.1 X.2.1 dJ6_bitCount_0f7a4_35 rfl (lv_at hl 0 rfl) ?_
  refine lv_bipush (v := 8) X.1 X.2.1 dJ6_bitCount_0f7a4_36 (by decide) ?_
  refine lv_iushr X.1 X.2.1 dJ6_bitCount_0f7a4_38 rfl ?_
  refine lv_iadd X.1 X.2.1 dJ6_bitCount_0f7a4_39 ?_
  refine lv_istore_n (lv' := [(0, .int _)]) X.1 X.2.1 dJ6_bitCount_0f7a4_40 rfl hl (by decide) rfl (fun ls hl => ?_)
  refine lv_iload_n X.1 X.2.1 dJ6_bitCount_0f7a4_41 rfl (lv_at hl 0 rfl) ?_
  refine lv_iload_n X.1 X.2.1 dJ6_bitCount_0f7a4_42 rfl (lv_at hl 0 rfl) ?_
  refine lv_bipush (v := 16) X.1 X.2.1 dJ6_bitCount_0f7a4_43 (by decide) ?_
  refine lv_iushr X.1 X.2.1 dJ6_bitCount_0f7a4_45 rfl ?_
  refine lv_iadd X.1 X.2.1 dJ6_bitCount_0f7a4_46 ?_
  refine lv_istore_n (lv' := [(0, .int _)]) X.1 X.2.1 dJ6_bitCount_0f7a4_47 rfl hl (by decide) rfl (fun ls hl => ?_)
  refine lv_iload_n X.1 X.2.1 dJ6_bitCount_0f7a4_48 rfl (lv_at hl 0 rfl) ?_
  refine lv_bipush (v := 63) X.1 X.2.1 dJ6_bitCount_0f7a4_49 (by decide) ?_
  refine lv_iand X.1 X.2.1 dJ6_bitCount_0f7a4_51 ?_
  have h9 := hE
  exact r_iret X I (e_i h9.symm rfl rfl) dJ6_bitCount_0f7a4_52
noncomputable def f0_doors (k : Nat) (σ : SI) : Int32 := (fbitCount (σ k 5))
set_option maxHeartbeats 4000000 in
set_option maxRecDepth 100000 in
theorem c0_doors (l : Launch) (G : GT) {k : Nat} (hk : isDay k) (σ : SI) (τ : SL) : Mc l yX0_doors cX0_doors 1 (some .int) 1 G [.ref (G.2.1 k)] σ τ (Qi G (Ei (f0_doors k σ) σ τ)) := by
  refine m_start (by decide +kernel) (Nat.le_of_ble_eq_true rfl) rfl (fun p e s m args below meth c ls X I hl => ?_)
  have hl : lv_has ls 1 [(0, .ref (G.2.1 k))] := hl
  obtain ⟨E, hE⟩ : ∃ E, E = (f0_doors k σ) := ⟨_, rfl⟩
  rw [← hE]
  refine lv_aload_n X.1 X.2.1 dX0_doors_0 rfl (lv_at hl 0 rfl) ?_
  refine g0_5 X I (k := k) (Nat.lt_of_le_of_lt (Nat.add_le_add_left (show 0 ≤ 1 by decide) k) hk.1) hk.2.1 lf_X0_54 dX0_doors_1 ?_
  refine r_ei I (r_runS X I pk_J6_bitCount_0f7a4 (cbitCount l G _ _ _) lm_X0_75 rfl hl.1 rfl (Nat.le_of_ble_eq_true rfl) dX0_doors_4 ⟨Nat.le_of_ble_eq_true rfl, Nat.le_of_ble_eq_true rfl⟩ ⟨Nat.le_refl 0, Nat.le_refl 0⟩) (fun H locs I => ?_)
  have h9 := hE
  exact r_iret X I (e_i h9.symm rfl rfl) dX0_doors_7
noncomputable def f0_logLength (k : Nat) (σ : SI) : Int32 := (if (σ k 8) < (60 : Int32) then (σ k 8) else (60 : Int32))
set_option maxHeartbeats 4000000 in
set_option maxRecDepth 100000 in
theorem c0_logLength (l : Launch) (G : GT) {k : Nat} (hk : isDay k) (σ : SI) (τ : SL) : Mc l yX0_logLength cX0_logLength 1 (some .int) 1 G [.ref (G.2.1 k)] σ τ (Qi G (Ei (f0_logLength k σ) σ τ)) := by
  refine m_start (by decide +kernel) (Nat.le_of_ble_eq_true rfl) rfl (fun p e s m args below meth c ls X I hl => ?_)
  have hl : lv_has ls 1 [(0, .ref (G.2.1 k))] := hl
  obtain ⟨E, hE⟩ : ∃ E, E = (f0_logLength k σ) := ⟨_, rfl⟩
  rw [← hE]
  refine lv_bipush (v := 60) X.1 X.2.1 dX0_logLength_0 (by decide) ?_
  refine lv_aload_n X.1 X.2.1 dX0_logLength_2 rfl (lv_at hl 0 rfl) ?_
  refine g0_8 X I (k := k) (Nat.lt_of_le_of_lt (Nat.add_le_add_left (show 0 ≤ 1 by decide) k) hk.1) hk.2.1 lf_X0_42 dX0_logLength_3 ?_
  refine r_mmin X hl.1 lm_X0_80 ls_J9_min_7cf53 ln_J9 lc_J9_min_7cf53 (Nat.le_of_ble_eq_true rfl) (Nat.le_of_ble_eq_true rfl) (Nat.le_refl 0) (Nat.le_refl 0) dX0_logLength_6 ?_
  have h9 := hE
  exact r_iret X I (e_i h9.symm rfl rfl) dX0_logLength_9
noncomputable def f1_clear (k : Nat) (σ : SI) : SI := let s0 := sp σ k 1 (0 : Int32); s0
theorem w_f1_clear {k : Nat} (σ : SI) (a : Nat) (h0 : a ≠ k) : (f1_clear k σ) a = σ a := by
  unfold f1_clear
  exact (sp_n h0)
set_option maxHeartbeats 4000000 in
set_option maxRecDepth 100000 in
theorem c1_clear (l : Launch) (G : GT) {k : Nat} (hk : isLaw k) (σ : SI) (τ : SL) : Mc l yX1_clear cX1_clear 1 none 0 G [.ref (G.2.1 k)] σ τ (Qv G (Ev (f1_clear k σ) τ)) := by
  refine m_start (by decide +kernel) (Nat.le_of_ble_eq_true rfl) rfl (fun p e s m args below meth c ls X I hl => ?_)
  have hl : lv_has ls 1 [(0, .ref (G.2.1 k))] := hl
  obtain ⟨E, hE⟩ : ∃ E, E = (f1_clear k σ) := ⟨_, rfl⟩
  rw [← hE]
  refine lv_aload_n X.1 X.2.1 dX1_clear_0 rfl (lv_at hl 0 rfl) ?_
  refine lv_iconst (v := 0) X.1 X.2.1 dX1_clear_1 (by decide) ?_
  refine p1_1 X I (k := k) (Nat.lt_of_le_of_lt (Nat.add_le_add_left (show 0 ≤ 1 by decide) k) hk.1) hk.2.1 lf_X1_15 dX1_clear_2 (fun H locs I => ?_)
  have h9 := hE
  exact r_vret X I (e_v h9.symm rfl) dX1_clear_5
noncomputable def f1_copy (k : Nat) (k1 : Nat) (σ : SI) : SI := let s0 := su σ (k + 1) (va_cpy (σ (k1 + 1)) (σ (k + 1)) 0 0 240); let s1 := sp s0 k 1 (s0 k1 1); s1
theorem w_f1_copy {k : Nat} {k1 : Nat} (σ : SI) (a : Nat) (h0 : a ≠ (k + 1)) (h1 : a ≠ k) : (f1_copy k k1 σ) a = σ a := by
  unfold f1_copy
  exact ((sp_n h1).trans (su_n _ _ h0))
set_option maxHeartbeats 4000000 in
set_option maxRecDepth 100000 in
theorem c1_copy (l : Launch) (G : GT) {k : Nat} (hk : isLaw k) {k1 : Nat} (hk1 : isLaw k1) (σ : SI) (τ : SL) : Mc l yX1_copy cX1_copy 2 none 2 G [.ref (G.2.1 k), .ref (G.2.1 k1)] σ τ (Qv G (Ev (f1_copy k k1 σ) τ)) := by
  refine m_start (by decide +kernel) (Nat.le_of_ble_eq_true rfl) rfl (fun p e s m args below meth c ls X I hl => ?_)
  have hl : lv_has ls 2 [(0, .ref (G.2.1 k)), (1, .ref (G.2.1 k1))] := hl
  obtain ⟨E, hE⟩ : ∃ E, E = (f1_copy k k1 σ) := ⟨_, rfl⟩
  rw [← hE]
  refine lv_aload_n X.1 X.2.1 dX1_copy_0 rfl (lv_at hl 1 rfl) ?_
  refine g1_0 X I (k := k1) (Nat.lt_of_le_of_lt (Nat.add_le_add_left (show 0 ≤ 1 by decide) k1) hk1.1) hk1.2.1 lf_X1_9 dX1_copy_1 ?_
  refine lv_iconst (v := 0) X.1 X.2.1 dX1_copy_4 (by decide) ?_
  refine lv_aload_n X.1 X.2.1 dX1_copy_5 rfl (lv_at hl 0 rfl) ?_
  refine g1_0 X I (k := k) (Nat.lt_of_le_of_lt (Nat.add_le_add_left (show 0 ≤ 1 by decide) k) hk.1) hk.2.1 lf_X1_9 dX1_copy_6 ?_
  refine lv_iconst (v := 0) X.1 X.2.1 dX1_copy_9 (by decide) ?_
  refine lv_sipush (v := 240) X.1 X.2.1 dX1_copy_10 (by decide) ?_
  refine r_copy X I hl.1 (k0 := (k1 + 1)) (n0 := 240) (k1 := (k + 1)) (n1 := 240) (Nat.lt_of_le_of_lt (Nat.add_le_add_left (show 1 ≤ 1 by decide) k1) hk1.1) hk1.2.2 (Nat.lt_of_le_of_lt (Nat.add_le_add_left (show 1 ≤ 1 by decide) k) hk.1) hk.2.2 (N := 240) (n := 240) (by decide) (by decide) (by decide) rfl (Nat.le_of_ble_eq_true rfl) (Nat.le_of_ble_eq_true rfl) lm_X1_19 dX1_copy_13 (Nat.le_of_ble_eq_true rfl) (Nat.le_of_ble_eq_true rfl) (fun H locs I => ?_)
  refine lv_aload_n X.1 X.2.1 dX1_copy_16 rfl (lv_at hl 0 rfl) ?_
  refine lv_aload_n X.1 X.2.1 dX1_copy_17 rfl (lv_at hl 1 rfl) ?_
  refine g1_1 X I (k := k1) (Nat.lt_of_le_of_lt (Nat.add_le_add_left (show 0 ≤ 1 by decide) k1) hk1.1) hk1.2.1 lf_X1_15 dX1_copy_18 ?_
  refine p1_1 X I (k := k) (Nat.lt_of_le_of_lt (Nat.add_le_add_left (show 0 ≤ 1 by decide) k) hk.1) hk.2.1 lf_X1_15 dX1_copy_21 (fun H locs I => ?_)
  have h9 := hE
  exact r_vret X I (e_v h9.symm rfl) dX1_copy_24
