noncomputable def f11_arrived (σ : SI) (x1 : Int32) : Int32 × SI := let s0 := sp σ 24 2 (σ 32 4); let s1 := sp s0 24 3 (σ 32 5); let s2 := sp s1 24 4 (σ 32 3); let s3 := sp s2 24 5 (σ 32 6); let s4 := (f0_setGrievance 24 s3 x1 ((f0_grievanceOf 24 s3 x1) - (σ 32 8))); let s5 := sp s4 24 7 ((s4 24 7) + (σ 32 8)); let s6 := (f5_note 24 s5 x1 (s4 32 7) (σ 32 8)); ((σ 32 8), s6)
theorem w_f11_arrived (σ : SI) (x1 : Int32) (a : Nat) (h0 : a ≠ 24) (h1 : a ≠ 25) (h2 : a ≠ 28) : (f11_arrived σ x1).2 a = σ a := by
  refine fp_to2 ?_
  unfold f11_arrived
  exact (fr_mk21 ((w_f5_note _ _ _ _ a h2 h0).trans ((sp_n h0).trans ((w_f0_setGrievance _ _ _ a h1).trans ((sp_n h0).trans ((sp_n h0).trans ((sp_n h0).trans (sp_n h0))))))))
set_option maxHeartbeats 4000000 in
set_option maxRecDepth 100000 in
theorem c11_arrived (l : Launch) (G : GT) (σ : SI) (τ : SL) (x1 : Int32) : Mc l yX11_arrived cX11_arrived 3 (some .int) 3 G [.ref (G.2.1 0), .int x1] σ τ (Qi G (Ei (f11_arrived σ x1).1 (f11_arrived σ x1).2 τ)) := by
  refine m_start (by decide +kernel) (Nat.le_of_ble_eq_true rfl) rfl (fun p e s m args below meth c ls X I hl => ?_)
  have hl : lv_has ls 3 [(0, .ref (G.2.1 0)), (1, .int x1)] := hl
  obtain ⟨E, hE⟩ : ∃ E, E = (f11_arrived σ x1) := ⟨_, rfl⟩
  rw [← hE]
  refine lv_aload_n X.1 X.2.1 dX11_arrived_0 rfl (lv_at hl 0 rfl) ?_
  refine g11_7 X I (k := 0) (by decide) rfl lf_X11_65 dX11_arrived_1 ?_
  refine g4_8 X I (k := 32) (by decide) rfl lf_X11_242 dX11_arrived_4 ?_
  refine lv_istore_n (lv' := [(2, .int _), (0, .ref _), (1, .int _)]) X.1 X.2.1 dX11_arrived_7 rfl hl (by decide) rfl (fun ls hl => ?_)
  refine lv_aload_n X.1 X.2.1 dX11_arrived_8 rfl (lv_at hl 1 rfl) ?_
  refine g11_5 X I (k := 0) (by decide) rfl lf_X11_49 dX11_arrived_9 ?_
  refine lv_aload_n X.1 X.2.1 dX11_arrived_12 rfl (lv_at hl 1 rfl) ?_
  refine g11_7 X I (k := 0) (by decide) rfl lf_X11_65 dX11_arrived_13 ?_
  refine g4_4 X I (k := 32) (by decide) rfl lf_X11_245 dX11_arrived_16 ?_
  refine p0_2 X I (k := 24) (by decide) rfl lf_X11_213 dX11_arrived_19 (fun H locs I => ?_)
  refine lv_aload_n X.1 X.2.1 dX11_arrived_22 rfl (lv_at hl 1 rfl) ?_
  refine g11_5 X I (k := 0) (by decide) rfl lf_X11_49 dX11_arrived_23 ?_
  refine lv_aload_n X.1 X.2.1 dX11_arrived_26 rfl (lv_at hl 1 rfl) ?_
  refine g11_7 X I (k := 0) (by decide) rfl lf_X11_65 dX11_arrived_27 ?_
  refine g4_5 X I (k := 32) (by decide) rfl lf_X11_246 dX11_arrived_30 ?_
  refine p0_3 X I (k := 24) (by decide) rfl lf_X11_249 dX11_arrived_33 (fun H locs I => ?_)
  refine lv_aload_n X.1 X.2.1 dX11_arrived_36 rfl (lv_at hl 1 rfl) ?_
  refine g11_5 X I (k := 0) (by decide) rfl lf_X11_49 dX11_arrived_37 ?_
  refine lv_aload_n X.1 X.2.1 dX11_arrived_40 rfl (lv_at hl 1 rfl) ?_
  refine g11_7 X I (k := 0) (by decide) rfl lf_X11_65 dX11_arrived_41 ?_
  refine g4_3 X I (k := 32) (by decide) rfl lf_X11_250 dX11_arrived_44 ?_
  refine p0_4 X I (k := 24) (by decide) rfl lf_X11_210 dX11_arrived_47 (fun H locs I => ?_)
  refine lv_aload_n X.1 X.2.1 dX11_arrived_50 rfl (lv_at hl 1 rfl) ?_
  refine g11_5 X I (k := 0) (by decide) rfl lf_X11_49 dX11_arrived_51 ?_
  refine lv_aload_n X.1 X.2.1 dX11_arrived_54 rfl (lv_at hl 1 rfl) ?_
  refine g11_7 X I (k := 0) (by decide) rfl lf_X11_65 dX11_arrived_55 ?_
  refine g4_6 X I (k := 32) (by decide) rfl lf_X11_251 dX11_arrived_58 ?_
  refine p0_5 X I (k := 24) (by decide) rfl lf_X11_254 dX11_arrived_61 (fun H locs I => ?_)
  refine lv_aload_n X.1 X.2.1 dX11_arrived_64 rfl (lv_at hl 1 rfl) ?_
  refine g11_5 X I (k := 0) (by decide) rfl lf_X11_49 dX11_arrived_65 ?_
  refine lv_iload_n X.1 X.2.1 dX11_arrived_68 rfl (lv_at hl 2 rfl) ?_
  refine lv_aload_n X.1 X.2.1 dX11_arrived_69 rfl (lv_at hl 1 rfl) ?_
  refine g11_5 X I (k := 0) (by decide) rfl lf_X11_49 dX11_arrived_70 ?_
  refine lv_iload_n X.1 X.2.1 dX11_arrived_73 rfl (lv_at hl 2 rfl) ?_
  refine r_ei I (r_runV X I pk_X0_grievanceOf (c0_grievanceOf l G (k := 24) ⟨by decide, rfl, rfl⟩ _ _ _) lm_X11_182 (by decide) (cl_0 rfl) rfl rfl rfl hl.1 rfl (Nat.le_of_ble_eq_true rfl) dX11_arrived_74 ⟨Nat.le_of_ble_eq_true rfl, Nat.le_of_ble_eq_true rfl⟩ ⟨Nat.le_refl 0, Nat.le_refl 0⟩) (fun H locs I => ?_)
  refine lv_iload_n X.1 X.2.1 dX11_arrived_77 rfl (lv_at hl 0 rfl) ?_
  refine lv_isub X.1 X.2.1 dX11_arrived_78 ?_
  refine r_ev I (r_runV X I pk_X0_setGrievance (c0_setGrievance l G (k := 24) ⟨by decide, rfl, rfl⟩ _ _ _ _) lm_X11_255 (by decide) (cl_0 rfl) rfl rfl rfl hl.1 rfl (Nat.le_of_ble_eq_true rfl) dX11_arrived_79 ⟨Nat.le_of_ble_eq_true rfl, Nat.le_of_ble_eq_true rfl⟩ ⟨Nat.le_refl 0, Nat.le_refl 0⟩) (fun H locs I => ?_)
  refine lv_aload_n X.1 X.2.1 dX11_arrived_82 rfl (lv_at hl 1 rfl) ?_
  refine g11_5 X I (k := 0) (by decide) rfl lf_X11_49 dX11_arrived_83 ?_
  refine lv_dup X.1 X.2.1 dX11_arrived_86 rfl ?_
  refine g0_7 X I (k := 24) (by decide) rfl lf_X11_259 dX11_arrived_87 ?_
  refine lv_iload_n X.1 X.2.1 dX11_arrived_90 rfl (lv_at hl 0 rfl) ?_
  refine lv_iadd X.1 X.2.1 dX11_arrived_91 ?_
  refine p0_7 X I (k := 24) (by decide) rfl lf_X11_259 dX11_arrived_92 (fun H locs I => ?_)
  refine lv_aload_n X.1 X.2.1 dX11_arrived_95 rfl (lv_at hl 1 rfl) ?_
  refine g11_6 X I (k := 0) (by decide) rfl lf_X11_56 dX11_arrived_96 ?_
  refine lv_aload_n X.1 X.2.1 dX11_arrived_99 rfl (lv_at hl 1 rfl) ?_
  refine g11_5 X I (k := 0) (by decide) rfl lf_X11_49 dX11_arrived_100 ?_
  refine lv_iload_n X.1 X.2.1 dX11_arrived_103 rfl (lv_at hl 2 rfl) ?_
  refine lv_aload_n X.1 X.2.1 dX11_arrived_104 rfl (lv_at hl 1 rfl) ?_
  refine g11_7 X I (k := 0) (by decide) rfl lf_X11_65 dX11_arrived_105 ?_
  refine g4_7 X I (k := 32) (by decide) rfl lf_X11_262 dX11_arrived_108 ?_
  refine lv_iload_n X.1 X.2.1 dX11_arrived_111 rfl (lv_at hl 0 rfl) ?_
  refine r_ev I (r_runV X I pk_X5_note (c5_note l G (k1 := 24) ⟨by decide, rfl, rfl⟩ _ _ _ _ _) lm_X11_265 (by decide) (cl_5 rfl) rfl rfl rfl hl.1 rfl (Nat.le_of_ble_eq_true rfl) dX11_arrived_112 ⟨Nat.le_of_ble_eq_true rfl, Nat.le_of_ble_eq_true rfl⟩ ⟨Nat.le_refl 0, Nat.le_refl 0⟩) (fun H locs I => ?_)
  refine lv_iload_n X.1 X.2.1 dX11_arrived_115 rfl (lv_at hl 0 rfl) ?_
  have h9 := hE
  exact r_iret X I (e_i (pr_fst h9) (pr_snd h9) rfl) dX11_arrived_116
noncomputable def f11_refused (σ : SI) (x1 : Int32) : Int32 × SI := if x1 < (0 : Int32) then ((-1 : Int32), σ) else (if (5 : Int32) ≤ x1 then ((-1 : Int32), σ) else (let s0 := sp σ 39 (Int32.toNatClampNeg x1) ((σ 39 (Int32.toNatClampNeg x1)) + (1 : Int32)); ((-1 : Int32), s0)))
theorem w_f11_refused (σ : SI) (x1 : Int32) (a : Nat) (h0 : a ≠ 39) : (f11_refused σ x1).2 a = σ a := by
  refine fp_to2 ?_
  unfold f11_refused
  exact (fr_ite2 (fr_mk21 rfl) (fr_ite2 (fr_mk21 rfl) (fr_mk21 (sp_n h0))))
set_option maxHeartbeats 4000000 in
set_option maxRecDepth 100000 in
theorem c11_refused (l : Launch) (G : GT) (σ : SI) (τ : SL) (x1 : Int32) : Mc l yX11_refused cX11_refused 2 (some .int) 0 G [.ref (G.2.1 0), .int x1] σ τ (Qi G (Ei (f11_refused σ x1).1 (f11_refused σ x1).2 τ)) := by
  refine m_start (by decide +kernel) (Nat.le_of_ble_eq_true rfl) rfl (fun p e s m args below meth c ls X I hl => ?_)
  have hl : lv_has ls 2 [(0, .ref (G.2.1 0)), (1, .int x1)] := hl
  obtain ⟨E, hE⟩ : ∃ E, E = (f11_refused σ x1) := ⟨_, rfl⟩
  rw [← hE]
  refine lv_iload_n X.1 X.2.1 dX11_refused_0 rfl (lv_at hl 1 rfl) ?_
  refine lv_if_lt (tgt := 23) X.1 X.2.1 dX11_refused_1 (by decide) (fun c_1 => ?_) (fun c_1 => ?_)
  · skip
    have hE := ite_t hE c_1
    refine lv_iconst (v := (-1)) X.1 X.2.1 dX11_refused_23 (by decide) ?_
    have h9 := hE
    exact r_iret X I (e_i (pr_fst h9) (pr_snd h9) rfl) dX11_refused_24
  · skip
    have hE := ite_f hE c_1
    refine lv_iload_n X.1 X.2.1 dX11_refused_4 rfl (lv_at hl 1 rfl) ?_
    refine lv_aload_n X.1 X.2.1 dX11_refused_5 rfl (lv_at hl 0 rfl) ?_
    refine g11_10 X I (k := 0) (by decide) rfl lf_X11_83 dX11_refused_6 ?_
    refine r_alen X I (k := 39) (n := 5) (by decide) rfl (v := 5) rfl dX11_refused_9 ?_
    refine lv_icmp_ge (tgt := 23) X.1 X.2.1 dX11_refused_10 (by decide) (fun c_2 => ?_) (fun c_2 => ?_)
    · skip
      have hE := ite_t hE c_2
      refine lv_iconst (v := (-1)) X.1 X.2.1 dX11_refused_23 (by decide) ?_
      have h9 := hE
      exact r_iret X I (e_i (pr_fst h9) (pr_snd h9) rfl) dX11_refused_24
    · skip
      have hE := ite_f hE c_2
      refine lv_aload_n X.1 X.2.1 dX11_refused_13 rfl (lv_at hl 0 rfl) ?_
      refine g11_10 X I (k := 0) (by decide) rfl lf_X11_83 dX11_refused_14 ?_
      refine lv_iload_n X.1 X.2.1 dX11_refused_17 rfl (lv_at hl 1 rfl) ?_
      refine lv_dup2_11 X.1 X.2.1 dX11_refused_18 rfl rfl ?_
      refine r_ald X I (k := 39) (n := 5) (by decide) rfl (vp_g (n := 5) (by decide) c_1 c_2) dX11_refused_19 ?_
      refine lv_iconst (v := 1) X.1 X.2.1 dX11_refused_20 (by decide) ?_
      refine lv_iadd X.1 X.2.1 dX11_refused_21 ?_
      refine r_ast X I (k := 39) (n := 5) (by decide) rfl (vp_g (n := 5) (by decide) c_1 c_2) dX11_refused_22 (fun H locs I => ?_)
      refine lv_iconst (v := (-1)) X.1 X.2.1 dX11_refused_23 (by decide) ?_
      have h9 := hE
      exact r_iret X I (e_i (pr_fst h9) (pr_snd h9) rfl) dX11_refused_24
noncomputable def f11_carry (σ : SI) (x1 : Int32) : Int32 × SI := if (f8_isHouse 10 σ x1) = true then (if (σ 24 4) = x1 then (let r0 := (f11_refused σ (2 : Int32)); r0) else (if (f0_wasAt 24 σ x1) = true then (let r6 := (f11_refused σ (2 : Int32)); r6) else (let s1 := (f4_setOut σ); let r2 := (f4_comesTo s1 x1); if r2.1 = true then (let s3 := (f5_keep 24 r2.2); let r4 := (f11_arrived s3 x1); r4) else (let r5 := (f11_refused r2.2 (4 : Int32)); r5)))) else (let r7 := (f11_refused σ (0 : Int32)); r7)
theorem w_f11_carry (σ : SI) (x1 : Int32) (a : Nat) (h0 : a ≠ 13) (h1 : a ≠ 15) (h2 : a ≠ 24) (h3 : a ≠ 25) (h4 : a ≠ 26) (h5 : a ≠ 28) (h6 : a ≠ 32) (h7 : a ≠ 39) (h8 : a < 43 ∨ 123 ≤ a) : (f11_carry σ x1).2 a = σ a := by
  refine fp_to2 ?_
  unfold f11_carry
  exact (fr_ite2 (fr_ite2 (w_f11_refused _ _ a h7) (fr_ite2 (w_f11_refused _ _ a h7) (fr_ite2 ((w_f11_arrived _ _ a h2 h3 h5).trans ((w_f5_keep _ a h4 h8).trans ((w_f4_comesTo _ _ a h0 h1 h6).trans (w_f4_setOut _ a h6)))) ((w_f11_refused _ _ a h7).trans ((w_f4_comesTo _ _ a h0 h1 h6).trans (w_f4_setOut _ a h6)))))) (w_f11_refused _ _ a h7))
set_option maxHeartbeats 4000000 in
set_option maxRecDepth 100000 in
theorem c11_carry (l : Launch) (G : GT) (σ : SI) (τ : SL) (x1 : Int32) : Mc l yX11_carry cX11_carry 2 (some .int) 5 G [.ref (G.2.1 0), .int x1] σ τ (Qi G (Ei (f11_carry σ x1).1 (f11_carry σ x1).2 τ)) := by
  refine m_start (by decide +kernel) (Nat.le_of_ble_eq_true rfl) rfl (fun p e s m args below meth c ls X I hl => ?_)
  have hl : lv_has ls 2 [(0, .ref (G.2.1 0)), (1, .int x1)] := hl
  obtain ⟨E, hE⟩ : ∃ E, E = (f11_carry σ x1) := ⟨_, rfl⟩
  rw [← hE]
  refine lv_aload_n X.1 X.2.1 dX11_carry_0 rfl (lv_at hl 0 rfl) ?_
  refine g11_3 X I (k := 0) (by decide) rfl lf_X11_35 dX11_carry_1 ?_
  refine lv_iload_n X.1 X.2.1 dX11_carry_4 rfl (lv_at hl 1 rfl) ?_
  refine r_ei I (r_runV X I pk_X8_isHouse (c8_isHouse l G (k := 10) ⟨by decide, rfl, rfl, rfl⟩ _ _ _) lm_X11_169 (by decide) (cl_8 rfl) rfl rfl rfl hl.1 rfl (Nat.le_of_ble_eq_true rfl) dX11_carry_5 ⟨Nat.le_of_ble_eq_true rfl, Nat.le_of_ble_eq_true rfl⟩ ⟨Nat.le_refl 0, Nat.le_refl 0⟩) (fun H locs I => ?_)
  refine lv_if_ne (tgt := 17) X.1 X.2.1 dX11_carry_8 (by decide) (fun c_1 => ?_) (fun c_1 => ?_)
  · skip
    have hE := ite_t hE (b2i_y c_1)
    refine lv_aload_n X.1 X.2.1 dX11_carry_17 rfl (lv_at hl 0 rfl) ?_
    refine g11_5 X I (k := 0) (by decide) rfl lf_X11_49 dX11_carry_18 ?_
    refine g0_4 X I (k := 24) (by decide) rfl lf_X11_210 dX11_carry_21 ?_
    refine lv_iload_n X.1 X.2.1 dX11_carry_24 rfl (lv_at hl 1 rfl) ?_
    refine lv_icmp_eq (tgt := 39) X.1 X.2.1 dX11_carry_25 (by decide) (fun c_2 => ?_) (fun c_2 => ?_)
    · skip
      have hE := ite_t hE c_2
      refine lv_aload_n X.1 X.2.1 dX11_carry_39 rfl (lv_at hl 0 rfl) ?_
      refine lv_iconst (v := 2) X.1 X.2.1 dX11_carry_40 (by decide) ?_
      refine r_ei I (r_runV X I pk_X11_refused (c11_refused l G _ _ _) lm_X11_226 (by decide) (cl_11 rfl) rfl rfl rfl hl.1 rfl (Nat.le_of_ble_eq_true rfl) dX11_carry_41 ⟨Nat.le_of_ble_eq_true rfl, Nat.le_of_ble_eq_true rfl⟩ ⟨Nat.le_refl 0, Nat.le_refl 0⟩) (fun H locs I => ?_)
      have h9 := hE
      exact r_iret X I (e_i (congrArg Prod.fst h9).symm (congrArg Prod.snd h9).symm rfl) dX11_carry_44
    · skip
      have hE := ite_f hE c_2
      refine lv_aload_n X.1 X.2.1 dX11_carry_28 rfl (lv_at hl 0 rfl) ?_
      refine g11_5 X I (k := 0) (by decide) rfl lf_X11_49 dX11_carry_29 ?_
      refine lv_iload_n X.1 X.2.1 dX11_carry_32 rfl (lv_at hl 1 rfl) ?_
      refine r_ei I (r_runV X I pk_X0_wasAt (c0_wasAt l G (k := 24) ⟨by decide, rfl, rfl⟩ _ _ _) lm_X11_188 (by decide) (cl_0 rfl) rfl rfl rfl hl.1 rfl (Nat.le_of_ble_eq_true rfl) dX11_carry_33 ⟨Nat.le_of_ble_eq_true rfl, Nat.le_of_ble_eq_true rfl⟩ ⟨Nat.le_refl 0, Nat.le_refl 0⟩) (fun H locs I => ?_)
      refine lv_if_eq (tgt := 45) X.1 X.2.1 dX11_carry_36 (by decide) (fun c_3 => ?_) (fun c_3 => ?_)
      · skip
        have hE := ite_f hE (b2i_n c_3)
        refine lv_aload_n X.1 X.2.1 dX11_carry_45 rfl (lv_at hl 0 rfl) ?_
        refine g11_7 X I (k := 0) (by decide) rfl lf_X11_65 dX11_carry_46 ?_
        refine r_ev I (r_runV X I pk_X4_setOut (c4_setOut l G _ _) lm_X11_229 (by decide) (cl_4 rfl) rfl rfl rfl hl.1 rfl (Nat.le_of_ble_eq_true rfl) dX11_carry_49 ⟨Nat.le_of_ble_eq_true rfl, Nat.le_of_ble_eq_true rfl⟩ ⟨Nat.le_refl 0, Nat.le_refl 0⟩) (fun H locs I => ?_)
        refine lv_aload_n X.1 X.2.1 dX11_carry_52 rfl (lv_at hl 0 rfl) ?_
        refine g11_7 X I (k := 0) (by decide) rfl lf_X11_65 dX11_carry_53 ?_
        refine lv_iload_n X.1 X.2.1 dX11_carry_56 rfl (lv_at hl 1 rfl) ?_
        refine r_ei I (r_runV X I pk_X4_comesTo (c4_comesTo l G _ _ _) lm_X11_232 (by decide) (cl_4 rfl) rfl rfl rfl hl.1 rfl (Nat.le_of_ble_eq_true rfl) dX11_carry_57 ⟨Nat.le_of_ble_eq_true rfl, Nat.le_of_ble_eq_true rfl⟩ ⟨Nat.le_refl 0, Nat.le_refl 0⟩) (fun H locs I => ?_)
        refine lv_if_ne (tgt := 69) X.1 X.2.1 dX11_carry_60 (by decide) (fun c_4 => ?_) (fun c_4 => ?_)
        · skip
          have hE := ite_t hE (b2i_y c_4)
          refine lv_aload_n X.1 X.2.1 dX11_carry_69 rfl (lv_at hl 0 rfl) ?_
          refine g11_6 X I (k := 0) (by decide) rfl lf_X11_56 dX11_carry_70 ?_
          refine lv_aload_n X.1 X.2.1 dX11_carry_73 rfl (lv_at hl 0 rfl) ?_
          refine g11_5 X I (k := 0) (by decide) rfl lf_X11_49 dX11_carry_74 ?_
          refine r_ev I (r_runV X I pk_X5_keep (c5_keep l G (k1 := 24) ⟨by decide, rfl, rfl⟩ _ _) lm_X11_235 (by decide) (cl_5 rfl) rfl rfl rfl hl.1 rfl (Nat.le_of_ble_eq_true rfl) dX11_carry_77 ⟨Nat.le_of_ble_eq_true rfl, Nat.le_of_ble_eq_true rfl⟩ ⟨Nat.le_refl 0, Nat.le_refl 0⟩) (fun H locs I => ?_)
          refine lv_aload_n X.1 X.2.1 dX11_carry_80 rfl (lv_at hl 0 rfl) ?_
          refine lv_iload_n X.1 X.2.1 dX11_carry_81 rfl (lv_at hl 1 rfl) ?_
          refine r_ei I (r_runV X I pk_X11_arrived (c11_arrived l G _ _ _) lm_X11_239 (by decide) (cl_11 rfl) rfl rfl rfl hl.1 rfl (Nat.le_of_ble_eq_true rfl) dX11_carry_82 ⟨Nat.le_of_ble_eq_true rfl, Nat.le_of_ble_eq_true rfl⟩ ⟨Nat.le_refl 0, Nat.le_refl 0⟩) (fun H locs I => ?_)
          have h9 := hE
          exact r_iret X I (e_i (congrArg Prod.fst h9).symm (congrArg Prod.snd h9).symm rfl) dX11_carry_85
        · skip
          have hE := ite_f hE (b2i_n c_4)
          refine lv_aload_n X.1 X.2.1 dX11_carry_63 rfl (lv_at hl 0 rfl) ?_
          refine lv_iconst (v := 4) X.1 X.2.1 dX11_carry_64 (by decide) ?_
          refine r_ei I (r_runV X I pk_X11_refused (c11_refused l G _ _ _) lm_X11_226 (by decide) (cl_11 rfl) rfl rfl rfl hl.1 rfl (Nat.le_of_ble_eq_true rfl) dX11_carry_65 ⟨Nat.le_of_ble_eq_true rfl, Nat.le_of_ble_eq_true rfl⟩ ⟨Nat.le_refl 0, Nat.le_refl 0⟩) (fun H locs I => ?_)
          have h9 := hE
          exact r_iret X I (e_i (congrArg Prod.fst h9).symm (congrArg Prod.snd h9).symm rfl) dX11_carry_68
      · skip
        have hE := ite_t hE (b2i_y c_3)
        refine lv_aload_n X.1 X.2.1 dX11_carry_39 rfl (lv_at hl 0 rfl) ?_
        refine lv_iconst (v := 2) X.1 X.2.1 dX11_carry_40 (by decide) ?_
        refine r_ei I (r_runV X I pk_X11_refused (c11_refused l G _ _ _) lm_X11_226 (by decide) (cl_11 rfl) rfl rfl rfl hl.1 rfl (Nat.le_of_ble_eq_true rfl) dX11_carry_41 ⟨Nat.le_of_ble_eq_true rfl, Nat.le_of_ble_eq_true rfl⟩ ⟨Nat.le_refl 0, Nat.le_refl 0⟩) (fun H locs I => ?_)
        have h9 := hE
        exact r_iret X I (e_i (congrArg Prod.fst h9).symm (congrArg Prod.snd h9).symm rfl) dX11_carry_44
  · skip
    have hE := ite_f hE (b2i_n c_1)
    refine lv_aload_n X.1 X.2.1 dX11_carry_11 rfl (lv_at hl 0 rfl) ?_
    refine lv_iconst (v := 0) X.1 X.2.1 dX11_carry_12 (by decide) ?_
    refine r_ei I (r_runV X I pk_X11_refused (c11_refused l G _ _ _) lm_X11_226 (by decide) (cl_11 rfl) rfl rfl rfl hl.1 rfl (Nat.le_of_ble_eq_true rfl) dX11_carry_13 ⟨Nat.le_of_ble_eq_true rfl, Nat.le_of_ble_eq_true rfl⟩ ⟨Nat.le_refl 0, Nat.le_refl 0⟩) (fun H locs I => ?_)
    have h9 := hE
    exact r_iret X I (e_i (congrArg Prod.fst h9).symm (congrArg Prod.snd h9).symm rfl) dX11_carry_16
noncomputable def f11_rest (σ : SI) : Int32 × SI := if (f8_isTold 10 σ) = true then (if (σ 24 3) = (0 : Int32) then (let r4 := (f11_refused σ (2 : Int32)); r4) else (if ((σ 24 2) + (5 : Int32)) ≤ (f8_timeThereIs 10 σ) then (let s0 := (f5_keep 24 σ); let s1 := sp s0 24 2 ((s0 24 2) + (5 : Int32)); let s2 := sp s1 24 3 (if (0 : Int32) < ((s0 24 3) - (10 : Int32)) then ((s0 24 3) - (10 : Int32)) else (0 : Int32)); ((if (0 : Int32) < ((s0 24 3) - (10 : Int32)) then ((s0 24 3) - (10 : Int32)) else (0 : Int32)), s2)) else (let r3 := (f11_refused σ (4 : Int32)); r3))) else (let r5 := (f11_refused σ (0 : Int32)); r5)
theorem w_f11_rest (σ : SI) (a : Nat) (h0 : a ≠ 24) (h1 : a ≠ 26) (h2 : a ≠ 39) (h3 : a < 43 ∨ 123 ≤ a) : (f11_rest σ).2 a = σ a := by
  refine fp_to2 ?_
  unfold f11_rest
  exact (fr_ite2 (fr_ite2 (w_f11_refused _ _ a h2) (fr_ite2 (fr_mk21 ((sp_n h0).trans ((sp_n h0).trans (w_f5_keep _ a h1 h3)))) (w_f11_refused _ _ a h2))) (w_f11_refused _ _ a h2))
set_option maxHeartbeats 4000000 in
set_option maxRecDepth 100000 in
theorem c11_rest (l : Launch) (G : GT) (σ : SI) (τ : SL) : Mc l yX11_rest cX11_rest 1 (some .int) 4 G [.ref (G.2.1 0)] σ τ (Qi G (Ei (f11_rest σ).1 (f11_rest σ).2 τ)) := by
  refine m_start (by decide +kernel) (Nat.le_of_ble_eq_true rfl) rfl (fun p e s m args below meth c ls X I hl => ?_)
  have hl : lv_has ls 1 [(0, .ref (G.2.1 0))] := hl
  obtain ⟨E, hE⟩ : ∃ E, E = (f11_rest σ) := ⟨_, rfl⟩
  rw [← hE]
  refine lv_aload_n X.1 X.2.1 dX11_rest_0 rfl (lv_at hl 0 rfl) ?_
  refine g11_3 X I (k := 0) (by decide) rfl lf_X11_35 dX11_rest_1 ?_
  refine r_ei I (r_runV X I pk_X8_isTold (c8_isTold l G (k := 10) ⟨by decide, rfl, rfl, rfl⟩ _ _) lm_X11_154 (by decide) (cl_8 rfl) rfl rfl rfl hl.1 rfl (Nat.le_of_ble_eq_true rfl) dX11_rest_4 ⟨Nat.le_of_ble_eq_true rfl, Nat.le_of_ble_eq_true rfl⟩ ⟨Nat.le_refl 0, Nat.le_refl 0⟩) (fun H locs I => ?_)
  refine lv_if_ne (tgt := 16) X.1 X.2.1 dX11_rest_7 (by decide) (fun c_1 => ?_) (fun c_1 => ?_)
  · skip
    have hE := ite_t hE (b2i_y c_1)
    refine lv_aload_n X.1 X.2.1 dX11_rest_16 rfl (lv_at hl 0 rfl) ?_
    refine g11_5 X I (k := 0) (by decide) rfl lf_X11_49 dX11_rest_17 ?_
    refine g0_3 X I (k := 24) (by decide) rfl lf_X11_249 dX11_rest_20 ?_
    refine lv_if_ne (tgt := 32) X.1 X.2.1 dX11_rest_23 (by decide) (fun c_2 => ?_) (fun c_2 => ?_)
    · skip
      have hE := ite_f hE c_2
      refine lv_aload_n X.1 X.2.1 dX11_rest_32 rfl (lv_at hl 0 rfl) ?_
      refine g11_5 X I (k := 0) (by decide) rfl lf_X11_49 dX11_rest_33 ?_
      refine g0_2 X I (k := 24) (by decide) rfl lf_X11_213 dX11_rest_36 ?_
      refine lv_iconst (v := 5) X.1 X.2.1 dX11_rest_39 (by decide) ?_
      refine lv_iadd X.1 X.2.1 dX11_rest_40 ?_
      refine lv_aload_n X.1 X.2.1 dX11_rest_41 rfl (lv_at hl 0 rfl) ?_
      refine g11_3 X I (k := 0) (by decide) rfl lf_X11_35 dX11_rest_42 ?_
      refine r_ei I (r_runV X I pk_X8_timeThereIs (c8_timeThereIs l G (k := 10) ⟨by decide, rfl, rfl, rfl⟩ _ _) lm_X11_157 (by decide) (cl_8 rfl) rfl rfl rfl hl.1 rfl (Nat.le_of_ble_eq_true rfl) dX11_rest_45 ⟨Nat.le_of_ble_eq_true rfl, Nat.le_of_ble_eq_true rfl⟩ ⟨Nat.le_refl 0, Nat.le_refl 0⟩) (fun H locs I => ?_)
      refine lv_icmp_le (tgt := 57) X.1 X.2.1 dX11_rest_48 (by decide) (fun c_3 => ?_) (fun c_3 => ?_)
      · skip
        have hE := ite_t hE c_3
        refine lv_aload_n X.1 X.2.1 dX11_rest_57 rfl (lv_at hl 0 rfl) ?_
        refine g11_6 X I (k := 0) (by decide) rfl lf_X11_56 dX11_rest_58 ?_
        refine lv_aload_n X.1 X.2.1 dX11_rest_61 rfl (lv_at hl 0 rfl) ?_
        refine g11_5 X I (k := 0) (by decide) rfl lf_X11_49 dX11_rest_62 ?_
        refine r_ev I (r_runV X I pk_X5_keep (c5_keep l G (k1 := 24) ⟨by decide, rfl, rfl⟩ _ _) lm_X11_235 (by decide) (cl_5 rfl) rfl rfl rfl hl.1 rfl (Nat.le_of_ble_eq_true rfl) dX11_rest_65 ⟨Nat.le_of_ble_eq_true rfl, Nat.le_of_ble_eq_true rfl⟩ ⟨Nat.le_refl 0, Nat.le_refl 0⟩) (fun H locs I => ?_)
        refine lv_aload_n X.1 X.2.1 dX11_rest_68 rfl (lv_at hl 0 rfl) ?_
        refine g11_5 X I (k := 0) (by decide) rfl lf_X11_49 dX11_rest_69 ?_
        refine lv_dup X.1 X.2.1 dX11_rest_72 rfl ?_
        refine g0_2 X I (k := 24) (by decide) rfl lf_X11_213 dX11_rest_73 ?_
        refine lv_iconst (v := 5) X.1 X.2.1 dX11_rest_76 (by decide) ?_
        refine lv_iadd X.1 X.2.1 dX11_rest_77 ?_
        refine p0_2 X I (k := 24) (by decide) rfl lf_X11_213 dX11_rest_78 (fun H locs I => ?_)
        refine lv_aload_n X.1 X.2.1 dX11_rest_81 rfl (lv_at hl 0 rfl) ?_
        refine g11_5 X I (k := 0) (by decide) rfl lf_X11_49 dX11_rest_82 ?_
        refine lv_iconst (v := 0) X.1 X.2.1 dX11_rest_85 (by decide) ?_
        refine lv_aload_n X.1 X.2.1 dX11_rest_86 rfl (lv_at hl 0 rfl) ?_
        refine g11_5 X I (k := 0) (by decide) rfl lf_X11_49 dX11_rest_87 ?_
        refine g0_3 X I (k := 24) (by decide) rfl lf_X11_249 dX11_rest_90 ?_
        refine lv_bipush (v := 10) X.1 X.2.1 dX11_rest_93 (by decide) ?_
        refine lv_isub X.1 X.2.1 dX11_rest_95 ?_
        refine r_mmax X hl.1 lm_X11_269 ls_J9_max_7cf53 ln_J9 lc_J9_max_7cf53 (Nat.le_of_ble_eq_true rfl) (Nat.le_of_ble_eq_true rfl) (Nat.le_refl 0) (Nat.le_refl 0) dX11_rest_96 ?_
        refine p0_3 X I (k := 24) (by decide) rfl lf_X11_249 dX11_rest_99 (fun H locs I => ?_)
        refine lv_aload_n X.1 X.2.1 dX11_rest_102 rfl (lv_at hl 0 rfl) ?_
        refine g11_5 X I (k := 0) (by decide) rfl lf_X11_49 dX11_rest_103 ?_
        refine g0_3 X I (k := 24) (by decide) rfl lf_X11_249 dX11_rest_106 ?_
        have h9 := hE
        exact r_iret X I (e_i (pr_fst h9) (pr_snd h9) rfl) dX11_rest_109
      · skip
        have hE := ite_f hE c_3
        refine lv_aload_n X.1 X.2.1 dX11_rest_51 rfl (lv_at hl 0 rfl) ?_
        refine lv_iconst (v := 4) X.1 X.2.1 dX11_rest_52 (by decide) ?_
        refine r_ei I (r_runV X I pk_X11_refused (c11_refused l G _ _ _) lm_X11_226 (by decide) (cl_11 rfl) rfl rfl rfl hl.1 rfl (Nat.le_of_ble_eq_true rfl) dX11_rest_53 ⟨Nat.le_of_ble_eq_true rfl, Nat.le_of_ble_eq_true rfl⟩ ⟨Nat.le_refl 0, Nat.le_refl 0⟩) (fun H locs I => ?_)
        have h9 := hE
        exact r_iret X I (e_i (congrArg Prod.fst h9).symm (congrArg Prod.snd h9).symm rfl) dX11_rest_56
    · skip
      have hE := ite_t hE c_2
      refine lv_aload_n X.1 X.2.1 dX11_rest_26 rfl (lv_at hl 0 rfl) ?_
      refine lv_iconst (v := 2) X.1 X.2.1 dX11_rest_27 (by decide) ?_
      refine r_ei I (r_runV X I pk_X11_refused (c11_refused l G _ _ _) lm_X11_226 (by decide) (cl_11 rfl) rfl rfl rfl hl.1 rfl (Nat.le_of_ble_eq_true rfl) dX11_rest_28 ⟨Nat.le_of_ble_eq_true rfl, Nat.le_of_ble_eq_true rfl⟩ ⟨Nat.le_refl 0, Nat.le_refl 0⟩) (fun H locs I => ?_)
      have h9 := hE
      exact r_iret X I (e_i (congrArg Prod.fst h9).symm (congrArg Prod.snd h9).symm rfl) dX11_rest_31
  · skip
    have hE := ite_f hE (b2i_n c_1)
    refine lv_aload_n X.1 X.2.1 dX11_rest_10 rfl (lv_at hl 0 rfl) ?_
    refine lv_iconst (v := 0) X.1 X.2.1 dX11_rest_11 (by decide) ?_
    refine r_ei I (r_runV X I pk_X11_refused (c11_refused l G _ _ _) lm_X11_226 (by decide) (cl_11 rfl) rfl rfl rfl hl.1 rfl (Nat.le_of_ble_eq_true rfl) dX11_rest_12 ⟨Nat.le_of_ble_eq_true rfl, Nat.le_of_ble_eq_true rfl⟩ ⟨Nat.le_refl 0, Nat.le_refl 0⟩) (fun H locs I => ?_)
    have h9 := hE
    exact r_iret X I (e_i (congrArg Prod.fst h9).symm (congrArg Prod.snd h9).symm rfl) dX11_rest_15
