noncomputable def f6_size (σ : SI) : Int32 := (σ 36 2)
set_option maxHeartbeats 4000000 in
set_option maxRecDepth 100000 in
theorem c6_size (l : Launch) (G : GT) (σ : SI) (τ : SL) : Mc l yX6_size cX6_size 1 (some .int) 0 G [.ref (G.2.1 36)] σ τ (Qi G (Ei (f6_size σ) σ τ)) := by
  refine m_start (by decide +kernel) (Nat.le_of_ble_eq_true rfl) rfl (fun p e s m args below meth c ls X I hl => ?_)
  have hl : lv_has ls 1 [(0, .ref (G.2.1 36))] := hl
  obtain ⟨E, hE⟩ : ∃ E, E = (f6_size σ) := ⟨_, rfl⟩
  rw [← hE]
  refine lv_aload_n X.1 X.2.1 dX6_size_0 rfl (lv_at hl 0 rfl) ?_
  refine g6_2 X I (k := 36) (by decide) rfl lf_X6_18 dX6_size_1 ?_
  have h9 := hE
  exact r_iret X I (e_i h9.symm rfl rfl) dX6_size_4
noncomputable def f6_houseAt (σ : SI) (x1 : Int32) : Int32 := if x1 < (0 : Int32) then (-1 : Int32) else (if (σ 36 2) ≤ x1 then (-1 : Int32) else (f11_cell 37 7 σ x1))
set_option maxHeartbeats 4000000 in
set_option maxRecDepth 100000 in
theorem c6_houseAt (l : Launch) (G : GT) (σ : SI) (τ : SL) (x1 : Int32) : Mc l yX6_houseAt cX6_houseAt 2 (some .int) 1 G [.ref (G.2.1 36), .int x1] σ τ (Qi G (Ei (f6_houseAt σ x1) σ τ)) := by
  refine m_start (by decide +kernel) (Nat.le_of_ble_eq_true rfl) rfl (fun p e s m args below meth c ls X I hl => ?_)
  have hl : lv_has ls 2 [(0, .ref (G.2.1 36)), (1, .int x1)] := hl
  obtain ⟨E, hE⟩ : ∃ E, E = (f6_houseAt σ x1) := ⟨_, rfl⟩
  rw [← hE]
  refine lv_iload_n X.1 X.2.1 dX6_houseAt_0 rfl (lv_at hl 1 rfl) ?_
  refine lv_if_lt (tgt := 23) X.1 X.2.1 dX6_houseAt_1 (by decide) (fun c_1 => ?_) (fun c_1 => ?_)
  · skip
    have hE := ite_t hE c_1
    refine lv_iconst (v := (-1)) X.1 X.2.1 dX6_houseAt_23 (by decide) ?_
    have h9 := hE
    exact r_iret X I (e_i h9.symm rfl rfl) dX6_houseAt_24
  · skip
    have hE := ite_f hE c_1
    refine lv_iload_n X.1 X.2.1 dX6_houseAt_4 rfl (lv_at hl 1 rfl) ?_
    refine lv_aload_n X.1 X.2.1 dX6_houseAt_5 rfl (lv_at hl 0 rfl) ?_
    refine g6_2 X I (k := 36) (by decide) rfl lf_X6_18 dX6_houseAt_6 ?_
    refine lv_icmp_ge (tgt := 23) X.1 X.2.1 dX6_houseAt_9 (by decide) (fun c_2 => ?_) (fun c_2 => ?_)
    · skip
      have hE := ite_t hE c_2
      refine lv_iconst (v := (-1)) X.1 X.2.1 dX6_houseAt_23 (by decide) ?_
      have h9 := hE
      exact r_iret X I (e_i h9.symm rfl rfl) dX6_houseAt_24
    · skip
      have hE := ite_f hE c_2
      refine lv_aload_n X.1 X.2.1 dX6_houseAt_12 rfl (lv_at hl 0 rfl) ?_
      refine g6_0 X I (k := 36) (by decide) rfl lf_X6_9 dX6_houseAt_13 ?_
      refine lv_iload_n X.1 X.2.1 dX6_houseAt_16 rfl (lv_at hl 1 rfl) ?_
      refine r_ei I (r_runN X I pk_X11_cell (c11_cell l G (k := 37) (n := 7) (by decide) rfl (by decide) _ _ _) (by decide +kernel) rfl hl.1 rfl (Nat.le_of_ble_eq_true rfl) dX6_houseAt_17 ⟨Nat.le_of_ble_eq_true rfl, Nat.le_of_ble_eq_true rfl⟩ ⟨Nat.le_refl 0, Nat.le_refl 0⟩) (fun H locs I => ?_)
      refine lv_goto (tgt := 24) X.1 X.2.1 dX6_houseAt_20 (by decide) ?_
      have h9 := hE
      exact r_iret X I (e_i h9.symm rfl rfl) dX6_houseAt_24
noncomputable def f11_partsBehind (Tf : SI → Int32 → Int32 → Int32 → Int32 → Int64 → Int64 × SI) (σ : SI) (x1 : Int32) (x2 : Int32) (x3 : Int32) (x4 : Int32) (x5 : Int64) : Int64 × SI := if x1 = (0 : Int32) then (let r2 := (f2_standing σ (f0_grievanceOf 24 σ (f6_houseAt σ x1)) (f8_isThankful 10 σ (f6_houseAt σ x1)) x4 ((f0_doors 24 σ) + x1) (f8_distance 10 σ (σ 24 4) (f6_houseAt σ x1)) (σ 24 6)); if (x4 + r2.1) ≤ (f8_timeThereIs 10 r2.2) then (let r3 := (Tf r2.2 (x1 + (1 : Int32)) x2 x3 (x4 + r2.1) x5); r3) else ((0 : Int64), r2.2)) else (let r0 := (f2_standing σ (f0_grievanceOf 24 σ (f6_houseAt σ x1)) (f8_isThankful 10 σ (f6_houseAt σ x1)) x4 ((f0_doors 24 σ) + x1) (f8_distance 10 σ (f6_houseAt σ (x1 - (1 : Int32))) (f6_houseAt σ x1)) (σ 24 6)); if (x4 + r0.1) ≤ (f8_timeThereIs 10 r0.2) then (let r1 := (Tf r0.2 (x1 + (1 : Int32)) x2 x3 (x4 + r0.1) x5); r1) else ((0 : Int64), r0.2))
theorem w_f11_partsBehind {Tf : SI → Int32 → Int32 → Int32 → Int32 → Int64 → Int64 × SI} (hT : ∀ (σ : SI) (x1 : Int32) (x2 : Int32) (x3 : Int32) (x4 : Int32) (x5 : Int64) (b : Nat), b ≠ 13 → b ≠ 15 → (Tf σ x1 x2 x3 x4 x5).2 b = σ b) (σ : SI) (x1 : Int32) (x2 : Int32) (x3 : Int32) (x4 : Int32) (x5 : Int64) (a : Nat) (h0 : a ≠ 13) (h1 : a ≠ 15) : (f11_partsBehind Tf σ x1 x2 x3 x4 x5).2 a = σ a := by
  refine fp_to2 ?_
  unfold f11_partsBehind
  exact (fr_ite2 (fr_ite2 ((hT _ _ _ _ _ _ a h0 h1).trans (w_f2_standing _ _ _ _ _ _ _ a h0 h1)) (fr_mk21 (w_f2_standing _ _ _ _ _ _ _ a h0 h1))) (fr_ite2 ((hT _ _ _ _ _ _ a h0 h1).trans (w_f2_standing _ _ _ _ _ _ _ a h0 h1)) (fr_mk21 (w_f2_standing _ _ _ _ _ _ _ a h0 h1))))
set_option maxHeartbeats 4000000 in
set_option maxRecDepth 100000 in
theorem c11_partsBehind (l : Launch) (G : GT) {Tf : SI → Int32 → Int32 → Int32 → Int32 → Int64 → Int64 × SI} {D : Nat} (hT : ∀ (σ : SI) (τ : SL) (x1 : Int32) (x2 : Int32) (x3 : Int32) (x4 : Int32) (x5 : Int64), (Int32.toInt 7 - Int32.toInt x1).toNat < D → Mc l yX11_partsThrough cX11_partsThrough 11 (some .long) (20 + 2 * D) G [.ref (G.2.1 0), .int x1, .int x2, .int x3, .int x4, .long x5] σ τ (Ql G (El (Tf σ x1 x2 x3 x4 x5).1 (Tf σ x1 x2 x3 x4 x5).2 τ))) (σ : SI) (τ : SL) (x1 : Int32) (x2 : Int32) (x3 : Int32) (x4 : Int32) (x5 : Int64) (hx : (Int32.toInt 7 - Int32.toInt (x1 + 1)).toNat < D) : Mc l yX11_partsBehind cX11_partsBehind 11 (some .long) (20 + 2 * D + 1) G [.ref (G.2.1 0), .int x1, .int x2, .int x3, .int x4, .long x5] σ τ (Ql G (El (f11_partsBehind Tf σ x1 x2 x3 x4 x5).1 (f11_partsBehind Tf σ x1 x2 x3 x4 x5).2 τ)) := by
  refine m_start (by decide +kernel) (Nat.le_of_ble_eq_true rfl) rfl (fun p e s m args below meth c ls X I hl => ?_)
  have hl : lv_has ls 11 [(0, .ref (G.2.1 0)), (1, .int x1), (2, .int x2), (3, .int x3), (4, .int x4), (5, .long x5)] := hl
  obtain ⟨E, hE⟩ : ∃ E, E = (f11_partsBehind Tf σ x1 x2 x3 x4 x5) := ⟨_, rfl⟩
  rw [← hE]
  refine lv_aload_n X.1 X.2.1 dX11_partsBehind_0 rfl (lv_at hl 0 rfl) ?_
  refine g11_9 X I (k := 0) (by decide) rfl lf_X11_79 dX11_partsBehind_1 ?_
  refine lv_iload_n X.1 X.2.1 dX11_partsBehind_4 rfl (lv_at hl 1 rfl) ?_
  refine r_ei I (r_runV X I pk_X6_houseAt (c6_houseAt l G _ _ _) lm_X11_333 (by decide) (cl_6 rfl) rfl rfl rfl hl.1 rfl (Nat.le_of_ble_eq_true rfl) dX11_partsBehind_5 (hr_le (by omega) (by decide)) ⟨Nat.le_refl 0, Nat.le_refl 0⟩) (fun H locs I => ?_)
  refine lv_istore (lv' := [(7, .int _), (0, .ref _), (1, .int _), (2, .int _), (3, .int _), (4, .int _), (5, .long _)]) X.1 X.2.1 dX11_partsBehind_8 hl (by decide) rfl (fun ls hl => ?_)
  refine lv_aload_n X.1 X.2.1 dX11_partsBehind_10 rfl (lv_at hl 1 rfl) ?_
  refine g11_3 X I (k := 0) (by decide) rfl lf_X11_35 dX11_partsBehind_11 ?_
  refine lv_iload_n X.1 X.2.1 dX11_partsBehind_14 rfl (lv_at hl 2 rfl) ?_
  refine lv_if_ne (tgt := 28) X.1 X.2.1 dX11_partsBehind_15 (by decide) (fun c_1 => ?_) (fun c_1 => ?_)
  · skip
    have hE := ite_f hE c_1
    refine lv_aload_n X.1 X.2.1 dX11_partsBehind_28 rfl (lv_at hl 1 rfl) ?_
    refine g11_9 X I (k := 0) (by decide) rfl lf_X11_79 dX11_partsBehind_29 ?_
    refine lv_iload_n X.1 X.2.1 dX11_partsBehind_32 rfl (lv_at hl 2 rfl) ?_
    refine lv_iconst (v := 1) X.1 X.2.1 dX11_partsBehind_33 (by decide) ?_
    refine lv_isub X.1 X.2.1 dX11_partsBehind_34 ?_
    refine r_ei I (r_runV X I pk_X6_houseAt (c6_houseAt l G _ _ _) lm_X11_333 (by decide) (cl_6 rfl) rfl rfl rfl hl.1 rfl (Nat.le_of_ble_eq_true rfl) dX11_partsBehind_35 (hr_le (by omega) (by decide)) ⟨Nat.le_refl 0, Nat.le_refl 0⟩) (fun H locs I => ?_)
    refine lv_iload X.1 X.2.1 dX11_partsBehind_38 (lv_at hl 0 rfl) ?_
    refine r_ei I (r_runV X I pk_X8_distance (c8_distance l G (k := 10) ⟨by decide, rfl, rfl, rfl⟩ _ _ _ _) lm_X11_203 (by decide) (cl_8 rfl) rfl rfl rfl hl.1 rfl (Nat.le_of_ble_eq_true rfl) dX11_partsBehind_40 (hr_le (by omega) (by decide)) ⟨Nat.le_refl 0, Nat.le_refl 0⟩) (fun H locs I => ?_)
    refine lv_istore (lv' := [(8, .int _), (7, .int _), (0, .ref _), (1, .int _), (2, .int _), (3, .int _), (4, .int _), (5, .long _)]) X.1 X.2.1 dX11_partsBehind_43 hl (by decide) rfl (fun ls hl => ?_)
    refine lv_aload_n X.1 X.2.1 dX11_partsBehind_45 rfl (lv_at hl 2 rfl) ?_
    refine g11_5 X I (k := 0) (by decide) rfl lf_X11_49 dX11_partsBehind_46 ?_
    refine lv_iload X.1 X.2.1 dX11_partsBehind_49 (lv_at hl 1 rfl) ?_
    refine r_ei I (r_runV X I pk_X0_grievanceOf (c0_grievanceOf l G (k := 24) ⟨by decide, rfl, rfl⟩ _ _ _) lm_X11_182 (by decide) (cl_0 rfl) rfl rfl rfl hl.1 rfl (Nat.le_of_ble_eq_true rfl) dX11_partsBehind_51 (hr_le (by omega) (by decide)) ⟨Nat.le_refl 0, Nat.le_refl 0⟩) (fun H locs I => ?_)
    refine lv_istore (lv' := [(9, .int _), (8, .int _), (7, .int _), (0, .ref _), (1, .int _), (2, .int _), (3, .int _), (4, .int _), (5, .long _)]) X.1 X.2.1 dX11_partsBehind_54 hl (by decide) rfl (fun ls hl => ?_)
    refine lv_aload_n X.1 X.2.1 dX11_partsBehind_56 rfl (lv_at hl 3 rfl) ?_
    refine g11_4 X I (k := 0) (by decide) rfl lf_X11_42 dX11_partsBehind_57 ?_
    refine lv_iload X.1 X.2.1 dX11_partsBehind_60 (lv_at hl 0 rfl) ?_
    refine lv_aload_n X.1 X.2.1 dX11_partsBehind_62 rfl (lv_at hl 3 rfl) ?_
    refine g11_3 X I (k := 0) (by decide) rfl lf_X11_35 dX11_partsBehind_63 ?_
    refine lv_iload X.1 X.2.1 dX11_partsBehind_66 (lv_at hl 2 rfl) ?_
    refine r_ei I (r_runV X I pk_X8_isThankful (c8_isThankful l G (k := 10) ⟨by decide, rfl, rfl, rfl⟩ _ _ _) lm_X11_185 (by decide) (cl_8 rfl) rfl rfl rfl hl.1 rfl (Nat.le_of_ble_eq_true rfl) dX11_partsBehind_68 (hr_le (by omega) (by decide)) ⟨Nat.le_refl 0, Nat.le_refl 0⟩) (fun H locs I => ?_)
    refine lv_iload X.1 X.2.1 dX11_partsBehind_71 (lv_at hl 7 rfl) ?_
    refine lv_aload_n X.1 X.2.1 dX11_partsBehind_73 rfl (lv_at hl 3 rfl) ?_
    refine g11_5 X I (k := 0) (by decide) rfl lf_X11_49 dX11_partsBehind_74 ?_
    refine r_ei I (r_runV X I pk_X0_doors (c0_doors l G (k := 24) ⟨by decide, rfl, rfl⟩ _ _) lm_X11_216 (by decide) (cl_0 rfl) rfl rfl rfl hl.1 rfl (Nat.le_of_ble_eq_true rfl) dX11_partsBehind_77 (hr_le (by omega) (by decide)) ⟨Nat.le_refl 0, Nat.le_refl 0⟩) (fun H locs I => ?_)
    refine lv_iload_n X.1 X.2.1 dX11_partsBehind_80 rfl (lv_at hl 4 rfl) ?_
    refine lv_iadd X.1 X.2.1 dX11_partsBehind_81 ?_
    refine lv_iload X.1 X.2.1 dX11_partsBehind_82 (lv_at hl 1 rfl) ?_
    refine lv_aload_n X.1 X.2.1 dX11_partsBehind_84 rfl (lv_at hl 3 rfl) ?_
    refine g11_5 X I (k := 0) (by decide) rfl lf_X11_49 dX11_partsBehind_85 ?_
    refine g0_6 X I (k := 24) (by decide) rfl lf_X11_219 dX11_partsBehind_88 ?_
    refine r_ei I (r_runV X I pk_X2_standing (c2_standing l G _ _ _ _ _ _ _ _) lm_X11_222 (by decide) (cl_2 rfl) rfl rfl rfl hl.1 rfl (Nat.le_of_ble_eq_true rfl) dX11_partsBehind_91 (hr_le (by omega) (by decide)) ⟨Nat.le_refl 0, Nat.le_refl 0⟩) (fun H locs I => ?_)
    refine lv_istore (lv' := [(10, .int _), (9, .int _), (8, .int _), (7, .int _), (0, .ref _), (1, .int _), (2, .int _), (3, .int _), (4, .int _), (5, .long _)]) X.1 X.2.1 dX11_partsBehind_94 hl (by decide) rfl (fun ls hl => ?_)
    refine lv_iload X.1 X.2.1 dX11_partsBehind_96 (lv_at hl 8 rfl) ?_
    refine lv_iload X.1 X.2.1 dX11_partsBehind_98 (lv_at hl 0 rfl) ?_
    refine lv_iadd X.1 X.2.1 dX11_partsBehind_100 ?_
    refine lv_aload_n X.1 X.2.1 dX11_partsBehind_101 rfl (lv_at hl 4 rfl) ?_
    refine g11_3 X I (k := 0) (by decide) rfl lf_X11_35 dX11_partsBehind_102 ?_
    refine r_ei I (r_runV X I pk_X8_timeThereIs (c8_timeThereIs l G (k := 10) ⟨by decide, rfl, rfl, rfl⟩ _ _) lm_X11_157 (by decide) (cl_8 rfl) rfl rfl rfl hl.1 rfl (Nat.le_of_ble_eq_true rfl) dX11_partsBehind_105 (hr_le (by omega) (by decide)) ⟨Nat.le_refl 0, Nat.le_refl 0⟩) (fun H locs I => ?_)
    refine lv_icmp_le (tgt := 113) X.1 X.2.1 dX11_partsBehind_108 (by decide) (fun c_2 => ?_) (fun c_2 => ?_)
    · skip
      have hE := ite_t hE c_2
      refine lv_aload_n X.1 X.2.1 dX11_partsBehind_113 rfl (lv_at hl 4 rfl) ?_
      refine lv_iload_n X.1 X.2.1 dX11_partsBehind_114 rfl (lv_at hl 5 rfl) ?_
      refine lv_iconst (v := 1) X.1 X.2.1 dX11_partsBehind_115 (by decide) ?_
      refine lv_iadd X.1 X.2.1 dX11_partsBehind_116 ?_
      refine lv_iload_n X.1 X.2.1 dX11_partsBehind_117 rfl (lv_at hl 6 rfl) ?_
      refine lv_iload_n X.1 X.2.1 dX11_partsBehind_118 rfl (lv_at hl 7 rfl) ?_
      refine lv_iload X.1 X.2.1 dX11_partsBehind_119 (lv_at hl 8 rfl) ?_
      refine lv_iload X.1 X.2.1 dX11_partsBehind_121 (lv_at hl 0 rfl) ?_
      refine lv_iadd X.1 X.2.1 dX11_partsBehind_123 ?_
      refine lv_lload X.1 X.2.1 dX11_partsBehind_124 (lv_at hl 9 rfl) ?_
      refine r_el I (r_runV X I pk_X11_partsThrough (hT _ _ _ _ _ _ _ (hx)) lm_X11_437 (by decide) (cl_11 rfl) rfl rfl rfl hl.1 rfl (Nat.le_of_ble_eq_true rfl) dX11_partsBehind_126 (hr_le (by omega) (by decide)) ⟨Nat.le_refl 0, Nat.le_refl 0⟩) (fun H locs I => ?_)
      have h9 := hE
      exact r_lret X I (e_l (congrArg Prod.fst h9).symm (congrArg Prod.snd h9).symm rfl) dX11_partsBehind_129
    · skip
      have hE := ite_f hE c_2
      refine lv_lconst (v := 0) X.1 X.2.1 dX11_partsBehind_111 rfl ?_
      have h9 := hE
      exact r_lret X I (e_l (pr_fst h9) (pr_snd h9) rfl) dX11_partsBehind_112
  · skip
    have hE := ite_t hE c_1
    refine lv_aload_n X.1 X.2.1 dX11_partsBehind_18 rfl (lv_at hl 1 rfl) ?_
    refine g11_5 X I (k := 0) (by decide) rfl lf_X11_49 dX11_partsBehind_19 ?_
    refine g0_4 X I (k := 24) (by decide) rfl lf_X11_210 dX11_partsBehind_22 ?_
    refine lv_goto (tgt := 38) X.1 X.2.1 dX11_partsBehind_25 (by decide) ?_
    refine lv_iload X.1 X.2.1 dX11_partsBehind_38 (lv_at hl 0 rfl) ?_
    refine r_ei I (r_runV X I pk_X8_distance (c8_distance l G (k := 10) ⟨by decide, rfl, rfl, rfl⟩ _ _ _ _) lm_X11_203 (by decide) (cl_8 rfl) rfl rfl rfl hl.1 rfl (Nat.le_of_ble_eq_true rfl) dX11_partsBehind_40 (hr_le (by omega) (by decide)) ⟨Nat.le_refl 0, Nat.le_refl 0⟩) (fun H locs I => ?_)
    refine lv_istore (lv' := [(8, .int _), (7, .int _), (0, .ref _), (1, .int _), (2, .int _), (3, .int _), (4, .int _), (5, .long _)]) X.1 X.2.1 dX11_partsBehind_43 hl (by decide) rfl (fun ls hl => ?_)
    refine lv_aload_n X.1 X.2.1 dX11_partsBehind_45 rfl (lv_at hl 2 rfl) ?_
    refine g11_5 X I (k := 0) (by decide) rfl lf_X11_49 dX11_partsBehind_46 ?_
    refine lv_iload X.1 X.2.1 dX11_partsBehind_49 (lv_at hl 1 rfl) ?_
    refine r_ei I (r_runV X I pk_X0_grievanceOf (c0_grievanceOf l G (k := 24) ⟨by decide, rfl, rfl⟩ _ _ _) lm_X11_182 (by decide) (cl_0 rfl) rfl rfl rfl hl.1 rfl (Nat.le_of_ble_eq_true rfl) dX11_partsBehind_51 (hr_le (by omega) (by decide)) ⟨Nat.le_refl 0, Nat.le_refl 0⟩) (fun H locs I => ?_)
    refine lv_istore (lv' := [(9, .int _), (8, .int _), (7, .int _), (0, .ref _), (1, .int _), (2, .int _), (3, .int _), (4, .int _), (5, .long _)]) X.1 X.2.1 dX11_partsBehind_54 hl (by decide) rfl (fun ls hl => ?_)
    refine lv_aload_n X.1 X.2.1 dX11_partsBehind_56 rfl (lv_at hl 3 rfl) ?_
    refine g11_4 X I (k := 0) (by decide) rfl lf_X11_42 dX11_partsBehind_57 ?_
    refine lv_iload X.1 X.2.1 dX11_partsBehind_60 (lv_at hl 0 rfl) ?_
    refine lv_aload_n X.1 X.2.1 dX11_partsBehind_62 rfl (lv_at hl 3 rfl) ?_
    refine g11_3 X I (k := 0) (by decide) rfl lf_X11_35 dX11_partsBehind_63 ?_
    refine lv_iload X.1 X.2.1 dX11_partsBehind_66 (lv_at hl 2 rfl) ?_
    refine r_ei I (r_runV X I pk_X8_isThankful (c8_isThankful l G (k := 10) ⟨by decide, rfl, rfl, rfl⟩ _ _ _) lm_X11_185 (by decide) (cl_8 rfl) rfl rfl rfl hl.1 rfl (Nat.le_of_ble_eq_true rfl) dX11_partsBehind_68 (hr_le (by omega) (by decide)) ⟨Nat.le_refl 0, Nat.le_refl 0⟩) (fun H locs I => ?_)
    refine lv_iload X.1 X.2.1 dX11_partsBehind_71 (lv_at hl 7 rfl) ?_
    refine lv_aload_n X.1 X.2.1 dX11_partsBehind_73 rfl (lv_at hl 3 rfl) ?_
    refine g11_5 X I (k := 0) (by decide) rfl lf_X11_49 dX11_partsBehind_74 ?_
    refine r_ei I (r_runV X I pk_X0_doors (c0_doors l G (k := 24) ⟨by decide, rfl, rfl⟩ _ _) lm_X11_216 (by decide) (cl_0 rfl) rfl rfl rfl hl.1 rfl (Nat.le_of_ble_eq_true rfl) dX11_partsBehind_77 (hr_le (by omega) (by decide)) ⟨Nat.le_refl 0, Nat.le_refl 0⟩) (fun H locs I => ?_)
    refine lv_iload_n X.1 X.2.1 dX11_partsBehind_80 rfl (lv_at hl 4 rfl) ?_
    refine lv_iadd X.1 X.2.1 dX11_partsBehind_81 ?_
    refine lv_iload X.1 X.2.1 dX11_partsBehind_82 (lv_at hl 1 rfl) ?_
    refine lv_aload_n X.1 X.2.1 dX11_partsBehind_84 rfl (lv_at hl 3 rfl) ?_
    refine g11_5 X I (k := 0) (by decide) rfl lf_X11_49 dX11_partsBehind_85 ?_
    refine g0_6 X I (k := 24) (by decide) rfl lf_X11_219 dX11_partsBehind_88 ?_
    refine r_ei I (r_runV X I pk_X2_standing (c2_standing l G _ _ _ _ _ _ _ _) lm_X11_222 (by decide) (cl_2 rfl) rfl rfl rfl hl.1 rfl (Nat.le_of_ble_eq_true rfl) dX11_partsBehind_91 (hr_le (by omega) (by decide)) ⟨Nat.le_refl 0, Nat.le_refl 0⟩) (fun H locs I => ?_)
    refine lv_istore (lv' := [(10, .int _), (9, .int _), (8, .int _), (7, .int _), (0, .ref _), (1, .int _), (2, .int _), (3, .int _), (4, .int _), (5, .long _)]) X.1 X.2.1 dX11_partsBehind_94 hl (by decide) rfl (fun ls hl => ?_)
    refine lv_iload X.1 X.2.1 dX11_partsBehind_96 (lv_at hl 8 rfl) ?_
    refine lv_iload X.1 X.2.1 dX11_partsBehind_98 (lv_at hl 0 rfl) ?_
    refine lv_iadd X.1 X.2.1 dX11_partsBehind_100 ?_
    refine lv_aload_n X.1 X.2.1 dX11_partsBehind_101 rfl (lv_at hl 4 rfl) ?_
    refine g11_3 X I (k := 0) (by decide) rfl lf_X11_35 dX11_partsBehind_102 ?_
    refine r_ei I (r_runV X I pk_X8_timeThereIs (c8_timeThereIs l G (k := 10) ⟨by decide, rfl, rfl, rfl⟩ _ _) lm_X11_157 (by decide) (cl_8 rfl) rfl rfl rfl hl.1 rfl (Nat.le_of_ble_eq_true rfl) dX11_partsBehind_105 (hr_le (by omega) (by decide)) ⟨Nat.le_refl 0, Nat.le_refl 0⟩) (fun H locs I => ?_)
    refine lv_icmp_le (tgt := 113) X.1 X.2.1 dX11_partsBehind_108 (by decide) (fun c_3 => ?_) (fun c_3 => ?_)
    · skip
      have hE := ite_t hE c_3
      refine lv_aload_n X.1 X.2.1 dX11_partsBehind_113 rfl (lv_at hl 4 rfl) ?_
      refine lv_iload_n X.1 X.2.1 dX11_partsBehind_114 rfl (lv_at hl 5 rfl) ?_
      refine lv_iconst (v := 1) X.1 X.2.1 dX11_partsBehind_115 (by decide) ?_
      refine lv_iadd X.1 X.2.1 dX11_partsBehind_116 ?_
      refine lv_iload_n X.1 X.2.1 dX11_partsBehind_117 rfl (lv_at hl 6 rfl) ?_
      refine lv_iload_n X.1 X.2.1 dX11_partsBehind_118 rfl (lv_at hl 7 rfl) ?_
      refine lv_iload X.1 X.2.1 dX11_partsBehind_119 (lv_at hl 8 rfl) ?_
      refine lv_iload X.1 X.2.1 dX11_partsBehind_121 (lv_at hl 0 rfl) ?_
      refine lv_iadd X.1 X.2.1 dX11_partsBehind_123 ?_
      refine lv_lload X.1 X.2.1 dX11_partsBehind_124 (lv_at hl 9 rfl) ?_
      refine r_el I (r_runV X I pk_X11_partsThrough (hT _ _ _ _ _ _ _ (hx)) lm_X11_437 (by decide) (cl_11 rfl) rfl rfl rfl hl.1 rfl (Nat.le_of_ble_eq_true rfl) dX11_partsBehind_126 (hr_le (by omega) (by decide)) ⟨Nat.le_refl 0, Nat.le_refl 0⟩) (fun H locs I => ?_)
      have h9 := hE
      exact r_lret X I (e_l (congrArg Prod.fst h9).symm (congrArg Prod.snd h9).symm rfl) dX11_partsBehind_129
    · skip
      have hE := ite_f hE c_3
      refine lv_lconst (v := 0) X.1 X.2.1 dX11_partsBehind_111 rfl ?_
      have h9 := hE
      exact r_lret X I (e_l (pr_fst h9) (pr_snd h9) rfl) dX11_partsBehind_112
noncomputable def f11_partsThrough (Bf : SI → Int32 → Int32 → Int32 → Int32 → Int64 → Int64 × SI) (σ : SI) (x1 : Int32) (x2 : Int32) (x3 : Int32) (x4 : Int32) (x5 : Int64) : Int64 × SI := if x2 ≤ x1 then (x5, σ) else (if (7 : Int32) ≤ x1 then (x5, σ) else (if (lg_cmp x5 (0 : Int64)) = (0 : Int32) then (x5, σ) else (if x1 = (0 : Int32) then (let r2 := (Bf σ x1 x2 x3 ((x4 + (f8_distance 10 σ (σ 24 4) (f6_houseAt σ x1))) + ((f8_distance 10 σ (σ 24 4) (f6_houseAt σ x1)) / (2 : Int32))) ((x5 * (Int32.toInt64 x3)) / (100 : Int64))); let r3 := (Bf r2.2 x1 x2 x3 (x4 + (f8_distance 10 σ (σ 24 4) (f6_houseAt σ x1))) (x5 - ((x5 * (Int32.toInt64 x3)) / (100 : Int64)))); ((r2.1 + r3.1), r3.2)) else (let r0 := (Bf σ x1 x2 x3 ((x4 + (f8_distance 10 σ (f6_houseAt σ (x1 - (1 : Int32))) (f6_houseAt σ x1))) + ((f8_distance 10 σ (f6_houseAt σ (x1 - (1 : Int32))) (f6_houseAt σ x1)) / (2 : Int32))) ((x5 * (Int32.toInt64 x3)) / (100 : Int64))); let r1 := (Bf r0.2 x1 x2 x3 (x4 + (f8_distance 10 σ (f6_houseAt σ (x1 - (1 : Int32))) (f6_houseAt σ x1))) (x5 - ((x5 * (Int32.toInt64 x3)) / (100 : Int64)))); ((r0.1 + r1.1), r1.2)))))
theorem w_f11_partsThrough {Bf : SI → Int32 → Int32 → Int32 → Int32 → Int64 → Int64 × SI} (hB : ∀ (σ : SI) (x1 : Int32) (x2 : Int32) (x3 : Int32) (x4 : Int32) (x5 : Int64) (b : Nat), b ≠ 13 → b ≠ 15 → (Bf σ x1 x2 x3 x4 x5).2 b = σ b) (σ : SI) (x1 : Int32) (x2 : Int32) (x3 : Int32) (x4 : Int32) (x5 : Int64) (a : Nat) (h0 : a ≠ 13) (h1 : a ≠ 15) : (f11_partsThrough Bf σ x1 x2 x3 x4 x5).2 a = σ a := by
  refine fp_to2 ?_
  unfold f11_partsThrough
  exact (fr_ite2 (fr_mk21 rfl) (fr_ite2 (fr_mk21 rfl) (fr_ite2 (fr_mk21 rfl) (fr_ite2 (fr_mk21 ((hB _ _ _ _ _ _ a h0 h1).trans (hB _ _ _ _ _ _ a h0 h1))) (fr_mk21 ((hB _ _ _ _ _ _ a h0 h1).trans (hB _ _ _ _ _ _ a h0 h1)))))))
set_option maxHeartbeats 4000000 in
set_option maxRecDepth 100000 in
theorem c11_partsThrough (l : Launch) (G : GT) {Bf : SI → Int32 → Int32 → Int32 → Int32 → Int64 → Int64 × SI} {D : Nat} (hB : ∀ (σ : SI) (τ : SL) (x1 : Int32) (x2 : Int32) (x3 : Int32) (x4 : Int32) (x5 : Int64), (Int32.toInt 7 - Int32.toInt (x1 + 1)).toNat < D → Mc l yX11_partsBehind cX11_partsBehind 11 (some .long) (20 + 2 * D + 1) G [.ref (G.2.1 0), .int x1, .int x2, .int x3, .int x4, .long x5] σ τ (Ql G (El (Bf σ x1 x2 x3 x4 x5).1 (Bf σ x1 x2 x3 x4 x5).2 τ))) (σ : SI) (τ : SL) (x1 : Int32) (x2 : Int32) (x3 : Int32) (x4 : Int32) (x5 : Int64) (hx : (Int32.toInt 7 - Int32.toInt x1).toNat < D + 1) : Mc l yX11_partsThrough cX11_partsThrough 11 (some .long) (20 + 2 * D + 2) G [.ref (G.2.1 0), .int x1, .int x2, .int x3, .int x4, .long x5] σ τ (Ql G (El (f11_partsThrough Bf σ x1 x2 x3 x4 x5).1 (f11_partsThrough Bf σ x1 x2 x3 x4 x5).2 τ)) := by
  refine m_start (by decide +kernel) (Nat.le_of_ble_eq_true rfl) rfl (fun p e s m args below meth c ls X I hl => ?_)
  have hl : lv_has ls 11 [(0, .ref (G.2.1 0)), (1, .int x1), (2, .int x2), (3, .int x3), (4, .int x4), (5, .long x5)] := hl
  obtain ⟨E, hE⟩ : ∃ E, E = (f11_partsThrough Bf σ x1 x2 x3 x4 x5) := ⟨_, rfl⟩
  rw [← hE]
  refine lv_iload_n X.1 X.2.1 dX11_partsThrough_0 rfl (lv_at hl 1 rfl) ?_
  refine lv_iload_n X.1 X.2.1 dX11_partsThrough_1 rfl (lv_at hl 2 rfl) ?_
  refine lv_icmp_ge (tgt := 18) X.1 X.2.1 dX11_partsThrough_2 (by decide) (fun c_1 => ?_) (fun c_1 => ?_)
  · skip
    have hE := ite_t hE c_1
    refine lv_lload X.1 X.2.1 dX11_partsThrough_18 (lv_at hl 5 rfl) ?_
    have h9 := hE
    exact r_lret X I (e_l (pr_fst h9) (pr_snd h9) rfl) dX11_partsThrough_20
  · skip
    have hE := ite_f hE c_1
    refine lv_iload_n X.1 X.2.1 dX11_partsThrough_5 rfl (lv_at hl 1 rfl) ?_
    refine lv_bipush (v := 7) X.1 X.2.1 dX11_partsThrough_6 (by decide) ?_
    refine lv_icmp_ge (tgt := 18) X.1 X.2.1 dX11_partsThrough_8 (by decide) (fun c_2 => ?_) (fun c_2 => ?_)
    · skip
      have hE := ite_t hE c_2
      refine lv_lload X.1 X.2.1 dX11_partsThrough_18 (lv_at hl 5 rfl) ?_
      have h9 := hE
      exact r_lret X I (e_l (pr_fst h9) (pr_snd h9) rfl) dX11_partsThrough_20
    · skip
      have hE := ite_f hE c_2
      refine lv_lload X.1 X.2.1 dX11_partsThrough_11 (lv_at hl 5 rfl) ?_
      refine lv_lconst (v := 0) X.1 X.2.1 dX11_partsThrough_13 rfl ?_
      refine W.lcmp X.1 X.2.1 dX11_partsThrough_14 ?_
      refine lv_if_ne (tgt := 21) X.1 X.2.1 dX11_partsThrough_15 (by decide) (fun c_3 => ?_) (fun c_3 => ?_)
      · skip
        have hE := ite_f hE c_3
        refine lv_iload_n X.1 X.2.1 dX11_partsThrough_21 rfl (lv_at hl 1 rfl) ?_
        refine lv_if_ne (tgt := 35) X.1 X.2.1 dX11_partsThrough_22 (by decide) (fun c_4 => ?_) (fun c_4 => ?_)
        · skip
          have hE := ite_f hE c_4
          refine lv_aload_n X.1 X.2.1 dX11_partsThrough_35 rfl (lv_at hl 0 rfl) ?_
          refine g11_9 X I (k := 0) (by decide) rfl lf_X11_79 dX11_partsThrough_36 ?_
          refine lv_iload_n X.1 X.2.1 dX11_partsThrough_39 rfl (lv_at hl 1 rfl) ?_
          refine lv_iconst (v := 1) X.1 X.2.1 dX11_partsThrough_40 (by decide) ?_
          refine lv_isub X.1 X.2.1 dX11_partsThrough_41 ?_
          refine r_ei I (r_runV X I pk_X6_houseAt (c6_houseAt l G _ _ _) lm_X11_333 (by decide) (cl_6 rfl) rfl rfl rfl hl.1 rfl (Nat.le_of_ble_eq_true rfl) dX11_partsThrough_42 (hr_le (by omega) (by decide)) ⟨Nat.le_refl 0, Nat.le_refl 0⟩) (fun H locs I => ?_)
          refine lv_istore (lv' := [(7, .int _), (0, .ref _), (1, .int _), (2, .int _), (3, .int _), (4, .int _), (5, .long _)]) X.1 X.2.1 dX11_partsThrough_45 hl (by decide) rfl (fun ls hl => ?_)
          refine lv_aload_n X.1 X.2.1 dX11_partsThrough_47 rfl (lv_at hl 1 rfl) ?_
          refine g11_3 X I (k := 0) (by decide) rfl lf_X11_35 dX11_partsThrough_48 ?_
          refine lv_iload X.1 X.2.1 dX11_partsThrough_51 (lv_at hl 0 rfl) ?_
          refine lv_aload_n X.1 X.2.1 dX11_partsThrough_53 rfl (lv_at hl 1 rfl) ?_
          refine g11_9 X I (k := 0) (by decide) rfl lf_X11_79 dX11_partsThrough_54 ?_
          refine lv_iload_n X.1 X.2.1 dX11_partsThrough_57 rfl (lv_at hl 2 rfl) ?_
          refine r_ei I (r_runV X I pk_X6_houseAt (c6_houseAt l G _ _ _) lm_X11_333 (by decide) (cl_6 rfl) rfl rfl rfl hl.1 rfl (Nat.le_of_ble_eq_true rfl) dX11_partsThrough_58 (hr_le (by omega) (by decide)) ⟨Nat.le_refl 0, Nat.le_refl 0⟩) (fun H locs I => ?_)
          refine r_ei I (r_runV X I pk_X8_distance (c8_distance l G (k := 10) ⟨by decide, rfl, rfl, rfl⟩ _ _ _ _) lm_X11_203 (by decide) (cl_8 rfl) rfl rfl rfl hl.1 rfl (Nat.le_of_ble_eq_true rfl) dX11_partsThrough_61 (hr_le (by omega) (by decide)) ⟨Nat.le_refl 0, Nat.le_refl 0⟩) (fun H locs I => ?_)
          refine lv_istore (lv' := [(8, .int _), (7, .int _), (0, .ref _), (1, .int _), (2, .int _), (3, .int _), (4, .int _), (5, .long _)]) X.1 X.2.1 dX11_partsThrough_64 hl (by decide) rfl (fun ls hl => ?_)
          refine lv_lload X.1 X.2.1 dX11_partsThrough_66 (lv_at hl 7 rfl) ?_
          refine lv_iload_n X.1 X.2.1 dX11_partsThrough_68 rfl (lv_at hl 5 rfl) ?_
          refine lv_i2l X.1 X.2.1 dX11_partsThrough_69 rfl ?_
          refine lv_lmul X.1 X.2.1 dX11_partsThrough_70 ?_
          refine lv_ldc2 X.1 X.2.1 (v := 100) X.2.2.2.2.1 (X.2.2.2.1 _ lq_X11_441) dX11_partsThrough_71 ?_
          refine lv_ldiv X.1 X.2.1 dX11_partsThrough_74 (by decide) ?_
          refine lv_lstore (lv' := [(9, .long _), (8, .int _), (7, .int _), (0, .ref _), (1, .int _), (2, .int _), (3, .int _), (4, .int _), (5, .long _)]) X.1 X.2.1 dX11_partsThrough_75 hl (by decide) rfl (fun ls hl => ?_)
          refine lv_aload_n X.1 X.2.1 dX11_partsThrough_77 rfl (lv_at hl 3 rfl) ?_
          refine lv_iload_n X.1 X.2.1 dX11_partsThrough_78 rfl (lv_at hl 4 rfl) ?_
          refine lv_iload_n X.1 X.2.1 dX11_partsThrough_79 rfl (lv_at hl 5 rfl) ?_
          refine lv_iload_n X.1 X.2.1 dX11_partsThrough_80 rfl (lv_at hl 6 rfl) ?_
          refine lv_iload X.1 X.2.1 dX11_partsThrough_81 (lv_at hl 7 rfl) ?_
          refine lv_iload X.1 X.2.1 dX11_partsThrough_83 (lv_at hl 1 rfl) ?_
          refine lv_iadd X.1 X.2.1 dX11_partsThrough_85 ?_
          refine lv_iload X.1 X.2.1 dX11_partsThrough_86 (lv_at hl 1 rfl) ?_
          refine lv_iconst (v := 2) X.1 X.2.1 dX11_partsThrough_88 (by decide) ?_
          refine lv_idiv X.1 X.2.1 dX11_partsThrough_89 (by decide) ?_
          refine lv_iadd X.1 X.2.1 dX11_partsThrough_90 ?_
          refine lv_lload X.1 X.2.1 dX11_partsThrough_91 (lv_at hl 0 rfl) ?_
          refine r_el I (r_runV X I pk_X11_partsBehind (hB _ _ _ _ _ _ _ (Nat.lt_of_lt_of_le (up_dec c_2) (Nat.le_of_lt_succ hx))) lm_X11_443 (by decide) (cl_11 rfl) rfl rfl rfl hl.1 rfl (Nat.le_of_ble_eq_true rfl) dX11_partsThrough_93 (hr_le (by omega) (by decide)) ⟨Nat.le_refl 0, Nat.le_refl 0⟩) (fun H locs I => ?_)
          refine lv_aload_n X.1 X.2.1 dX11_partsThrough_96 rfl (lv_at hl 3 rfl) ?_
          refine lv_iload_n X.1 X.2.1 dX11_partsThrough_97 rfl (lv_at hl 4 rfl) ?_
          refine lv_iload_n X.1 X.2.1 dX11_partsThrough_98 rfl (lv_at hl 5 rfl) ?_
          refine lv_iload_n X.1 X.2.1 dX11_partsThrough_99 rfl (lv_at hl 6 rfl) ?_
          refine lv_iload X.1 X.2.1 dX11_partsThrough_100 (lv_at hl 7 rfl) ?_
          refine lv_iload X.1 X.2.1 dX11_partsThrough_102 (lv_at hl 1 rfl) ?_
          refine lv_iadd X.1 X.2.1 dX11_partsThrough_104 ?_
          refine lv_lload X.1 X.2.1 dX11_partsThrough_105 (lv_at hl 8 rfl) ?_
          refine lv_lload X.1 X.2.1 dX11_partsThrough_107 (lv_at hl 0 rfl) ?_
          refine lv_lsub X.1 X.2.1 dX11_partsThrough_109 ?_
          refine r_el I (r_runV X I pk_X11_partsBehind (hB _ _ _ _ _ _ _ (Nat.lt_of_lt_of_le (up_dec c_2) (Nat.le_of_lt_succ hx))) lm_X11_443 (by decide) (cl_11 rfl) rfl rfl rfl hl.1 rfl (Nat.le_of_ble_eq_true rfl) dX11_partsThrough_110 (hr_le (by omega) (by decide)) ⟨Nat.le_refl 0, Nat.le_refl 0⟩) (fun H locs I => ?_)
          refine lv_ladd X.1 X.2.1 dX11_partsThrough_113 ?_
          have h9 := hE
          exact r_lret X I (e_l (pr_fst h9) (pr_snd h9) rfl) dX11_partsThrough_114
        · skip
          have hE := ite_t hE c_4
          refine lv_aload_n X.1 X.2.1 dX11_partsThrough_25 rfl (lv_at hl 0 rfl) ?_
          refine g11_5 X I (k := 0) (by decide) rfl lf_X11_49 dX11_partsThrough_26 ?_
          refine g0_4 X I (k := 24) (by decide) rfl lf_X11_210 dX11_partsThrough_29 ?_
          refine lv_goto (tgt := 45) X.1 X.2.1 dX11_partsThrough_32 (by decide) ?_
          refine lv_istore (lv' := [(7, .int _), (0, .ref _), (1, .int _), (2, .int _), (3, .int _), (4, .int _), (5, .long _)]) X.1 X.2.1 dX11_partsThrough_45 hl (by decide) rfl (fun ls hl => ?_)
          refine lv_aload_n X.1 X.2.1 dX11_partsThrough_47 rfl (lv_at hl 1 rfl) ?_
          refine g11_3 X I (k := 0) (by decide) rfl lf_X11_35 dX11_partsThrough_48 ?_
          refine lv_iload X.1 X.2.1 dX11_partsThrough_51 (lv_at hl 0 rfl) ?_
          refine lv_aload_n X.1 X.2.1 dX11_partsThrough_53 rfl (lv_at hl 1 rfl) ?_
          refine g11_9 X I (k := 0) (by decide) rfl lf_X11_79 dX11_partsThrough_54 ?_
          refine lv_iload_n X.1 X.2.1 dX11_partsThrough_57 rfl (lv_at hl 2 rfl) ?_
          refine r_ei I (r_runV X I pk_X6_houseAt (c6_houseAt l G _ _ _) lm_X11_333 (by decide) (cl_6 rfl) rfl rfl rfl hl.1 rfl (Nat.le_of_ble_eq_true rfl) dX11_partsThrough_58 (hr_le (by omega) (by decide)) ⟨Nat.le_refl 0, Nat.le_refl 0⟩) (fun H locs I => ?_)
          refine r_ei I (r_runV X I pk_X8_distance (c8_distance l G (k := 10) ⟨by decide, rfl, rfl, rfl⟩ _ _ _ _) lm_X11_203 (by decide) (cl_8 rfl) rfl rfl rfl hl.1 rfl (Nat.le_of_ble_eq_true rfl) dX11_partsThrough_61 (hr_le (by omega) (by decide)) ⟨Nat.le_refl 0, Nat.le_refl 0⟩) (fun H locs I => ?_)
          refine lv_istore (lv' := [(8, .int _), (7, .int _), (0, .ref _), (1, .int _), (2, .int _), (3, .int _), (4, .int _), (5, .long _)]) X.1 X.2.1 dX11_partsThrough_64 hl (by decide) rfl (fun ls hl => ?_)
          refine lv_lload X.1 X.2.1 dX11_partsThrough_66 (lv_at hl 7 rfl) ?_
          refine lv_iload_n X.1 X.2.1 dX11_partsThrough_68 rfl (lv_at hl 5 rfl) ?_
          refine lv_i2l X.1 X.2.1 dX11_partsThrough_69 rfl ?_
          refine lv_lmul X.1 X.2.1 dX11_partsThrough_70 ?_
          refine lv_ldc2 X.1 X.2.1 (v := 100) X.2.2.2.2.1 (X.2.2.2.1 _ lq_X11_441) dX11_partsThrough_71 ?_
          refine lv_ldiv X.1 X.2.1 dX11_partsThrough_74 (by decide) ?_
          refine lv_lstore (lv' := [(9, .long _), (8, .int _), (7, .int _), (0, .ref _), (1, .int _), (2, .int _), (3, .int _), (4, .int _), (5, .long _)]) X.1 X.2.1 dX11_partsThrough_75 hl (by decide) rfl (fun ls hl => ?_)
          refine lv_aload_n X.1 X.2.1 dX11_partsThrough_77 rfl (lv_at hl 3 rfl) ?_
          refine lv_iload_n X.1 X.2.1 dX11_partsThrough_78 rfl (lv_at hl 4 rfl) ?_
          refine lv_iload_n X.1 X.2.1 dX11_partsThrough_79 rfl (lv_at hl 5 rfl) ?_
          refine lv_iload_n X.1 X.2.1 dX11_partsThrough_80 rfl (lv_at hl 6 rfl) ?_
          refine lv_iload X.1 X.2.1 dX11_partsThrough_81 (lv_at hl 7 rfl) ?_
          refine lv_iload X.1 X.2.1 dX11_partsThrough_83 (lv_at hl 1 rfl) ?_
          refine lv_iadd X.1 X.2.1 dX11_partsThrough_85 ?_
          refine lv_iload X.1 X.2.1 dX11_partsThrough_86 (lv_at hl 1 rfl) ?_
          refine lv_iconst (v := 2) X.1 X.2.1 dX11_partsThrough_88 (by decide) ?_
          refine lv_idiv X.1 X.2.1 dX11_partsThrough_89 (by decide) ?_
          refine lv_iadd X.1 X.2.1 dX11_partsThrough_90 ?_
          refine lv_lload X.1 X.2.1 dX11_partsThrough_91 (lv_at hl 0 rfl) ?_
          refine r_el I (r_runV X I pk_X11_partsBehind (hB _ _ _ _ _ _ _ (Nat.lt_of_lt_of_le (up_dec c_2) (Nat.le_of_lt_succ hx))) lm_X11_443 (by decide) (cl_11 rfl) rfl rfl rfl hl.1 rfl (Nat.le_of_ble_eq_true rfl) dX11_partsThrough_93 (hr_le (by omega) (by decide)) ⟨Nat.le_refl 0, Nat.le_refl 0⟩) (fun H locs I => ?_)
          refine lv_aload_n X.1 X.2.1 dX11_partsThrough_96 rfl (lv_at hl 3 rfl) ?_
          refine lv_iload_n X.1 X.2.1 dX11_partsThrough_97 rfl (lv_at hl 4 rfl) ?_
          refine lv_iload_n X.1 X.2.1 dX11_partsThrough_98 rfl (lv_at hl 5 rfl) ?_
          refine lv_iload_n X.1 X.2.1 dX11_partsThrough_99 rfl (lv_at hl 6 rfl) ?_
          refine lv_iload X.1 X.2.1 dX11_partsThrough_100 (lv_at hl 7 rfl) ?_
          refine lv_iload X.1 X.2.1 dX11_partsThrough_102 (lv_at hl 1 rfl) ?_
          refine lv_iadd X.1 X.2.1 dX11_partsThrough_104 ?_
          refine lv_lload X.1 X.2.1 dX11_partsThrough_105 (lv_at hl 8 rfl) ?_
          refine lv_lload X.1 X.2.1 dX11_partsThrough_107 (lv_at hl 0 rfl) ?_
          refine lv_lsub X.1 X.2.1 dX11_partsThrough_109 ?_
          refine r_el I (r_runV X I pk_X11_partsBehind (hB _ _ _ _ _ _ _ (Nat.lt_of_lt_of_le (up_dec c_2) (Nat.le_of_lt_succ hx))) lm_X11_443 (by decide) (cl_11 rfl) rfl rfl rfl hl.1 rfl (Nat.le_of_ble_eq_true rfl) dX11_partsThrough_110 (hr_le (by omega) (by decide)) ⟨Nat.le_refl 0, Nat.le_refl 0⟩) (fun H locs I => ?_)
          refine lv_ladd X.1 X.2.1 dX11_partsThrough_113 ?_
          have h9 := hE
          exact r_lret X I (e_l (pr_fst h9) (pr_snd h9) rfl) dX11_partsThrough_114
      · skip
        have hE := ite_t hE c_3
        refine lv_lload X.1 X.2.1 dX11_partsThrough_18 (lv_at hl 5 rfl) ?_
        have h9 := hE
        exact r_lret X I (e_l (pr_fst h9) (pr_snd h9) rfl) dX11_partsThrough_20
noncomputable def fPartsD : Nat → SI → Int32 → Int32 → Int32 → Int32 → Int64 → Int64 × SI
  | 0 => fun σ _ _ _ _ _ => (0, σ)
  | D + 1 => fun σ x1 x2 x3 x4 x5 => f11_partsThrough (f11_partsBehind (fPartsD D)) σ x1 x2 x3 x4 x5
theorem w_fPartsD : ∀ (D : Nat) (σ : SI) (x1 x2 x3 x4 : Int32) (x5 : Int64) (b : Nat), b ≠ 13 → b ≠ 15 → (fPartsD D σ x1 x2 x3 x4 x5).2 b = σ b
  | 0, _, _, _, _, _, _, _, _, _ => rfl
  | D + 1, σ, x1, x2, x3, x4, x5, b, h0, h1 => w_f11_partsThrough (fun σ x1 x2 x3 x4 x5 b h0 h1 => w_f11_partsBehind (fun σ x1 x2 x3 x4 x5 b h0 h1 => w_fPartsD D σ x1 x2 x3 x4 x5 b h0 h1) σ x1 x2 x3 x4 x5 b h0 h1) σ x1 x2 x3 x4 x5 b h0 h1
theorem cPartsD (l : Launch) (G : GT) : ∀ (D : Nat) (σ : SI) (τ : SL) (x1 x2 x3 x4 : Int32) (x5 : Int64), (Int32.toInt 7 - Int32.toInt x1).toNat < D → Mc l yX11_partsThrough cX11_partsThrough 11 (some .long) (20 + 2 * D) G [.ref (G.2.1 0), .int x1, .int x2, .int x3, .int x4, .long x5] σ τ (Ql G (El (fPartsD D σ x1 x2 x3 x4 x5).1 (fPartsD D σ x1 x2 x3 x4 x5).2 τ))
  | 0, _, _, _, _, _, _, _, h => absurd h (Nat.not_lt_zero _)
  | D + 1, σ, τ, x1, x2, x3, x4, x5, h => c11_partsThrough l G (fun σ τ x1 x2 x3 x4 x5 h => c11_partsBehind l G (fun σ τ x1 x2 x3 x4 x5 h => cPartsD l G D σ τ x1 x2 x3 x4 x5 h) σ τ x1 x2 x3 x4 x5 h) σ τ x1 x2 x3 x4 x5 h
noncomputable def f11_parts (σ : SI) (x1 x2 x3 x4 : Int32) (x5 : Int64) : Int64 × SI := fPartsD (blk 8) σ x1 x2 x3 x4 x5
theorem f11_parts_eq (σ : SI) (x1 x2 x3 x4 : Int32) (x5 : Int64) : f11_parts σ x1 x2 x3 x4 x5 = fPartsD 8 σ x1 x2 x3 x4 x5 := by unfold f11_parts; rw [blk_eq]
theorem c11_parts (l : Launch) (G : GT) (σ : SI) (τ : SL) (x1 x2 x3 x4 : Int32) (x5 : Int64) (hx0 : ¬ x1 < 0) : Mc l yX11_partsThrough cX11_partsThrough 11 (some .long) 36 G [.ref (G.2.1 0), .int x1, .int x2, .int x3, .int x4, .long x5] σ τ (Ql G (El (f11_parts σ x1 x2 x3 x4 x5).1 (f11_parts σ x1 x2 x3 x4 x5).2 τ)) := by rw [f11_parts_eq]; exact cPartsD l G 8 σ τ x1 x2 x3 x4 x5 (seven_lt hx0)
theorem w_f11_parts (σ : SI) (x1 x2 x3 x4 : Int32) (x5 : Int64) (b : Nat) (h0 : b ≠ 13) (h1 : b ≠ 15) : (f11_parts σ x1 x2 x3 x4 x5).2 b = σ b := by rw [f11_parts_eq]; exact w_fPartsD 8 σ x1 x2 x3 x4 x5 b h0 h1
