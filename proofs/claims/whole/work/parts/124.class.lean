noncomputable def f11_gift (σ : SI) (x1 : Int32) (x2 : Int32) : Int32 × SI := if (f8_isHouse 10 σ x1) = true then (if x2 < (1 : Int32) then (let r0 := (f11_refused σ (1 : Int32)); r0) else (if (30 : Int32) < x2 then (let r1 := (f11_refused σ (1 : Int32)); r1) else (if x2 ≤ (f0_grievanceOf 24 σ x1) then (if x2 ≤ (σ 24 1) then (let s2 := (f5_keep 24 σ); let s3 := sp s2 24 1 ((s2 24 1) - x2); let s4 := (f0_setGrievance 24 s3 x1 ((f0_grievanceOf 24 s3 x1) - x2)); ((f0_grievanceOf 24 s4 x1), s4)) else (let r5 := (f11_refused σ (3 : Int32)); r5)) else (let r6 := (f11_refused σ (1 : Int32)); r6)))) else (let r7 := (f11_refused σ (0 : Int32)); r7)
theorem w_f11_gift (σ : SI) (x1 : Int32) (x2 : Int32) (a : Nat) (h0 : a ≠ 24) (h1 : a ≠ 25) (h2 : a ≠ 26) (h3 : a ≠ 39) (h4 : a < 43 ∨ 123 ≤ a) : (f11_gift σ x1 x2).2 a = σ a := by
  refine fp_to2 ?_
  unfold f11_gift
  exact (fr_ite2 (fr_ite2 (w_f11_refused _ _ a h3) (fr_ite2 (w_f11_refused _ _ a h3) (fr_ite2 (fr_ite2 (fr_mk21 ((w_f0_setGrievance _ _ _ a h1).trans ((sp_n h0).trans (w_f5_keep _ a h2 h4)))) (w_f11_refused _ _ a h3)) (w_f11_refused _ _ a h3)))) (w_f11_refused _ _ a h3))
set_option maxHeartbeats 4000000 in
set_option maxRecDepth 100000 in
theorem c11_gift (l : Launch) (G : GT) (σ : SI) (τ : SL) (x1 : Int32) (x2 : Int32) : Mc l yX11_gift cX11_gift 3 (some .int) 4 G [.ref (G.2.1 0), .int x1, .int x2] σ τ (Qi G (Ei (f11_gift σ x1 x2).1 (f11_gift σ x1 x2).2 τ)) := by
  refine m_start (by decide +kernel) (Nat.le_of_ble_eq_true rfl) rfl (fun p e s m args below meth c ls X I hl => ?_)
  have hl : lv_has ls 3 [(0, .ref (G.2.1 0)), (1, .int x1), (2, .int x2)] := hl
  obtain ⟨E, hE⟩ : ∃ E, E = (f11_gift σ x1 x2) := ⟨_, rfl⟩
  rw [← hE]
  refine lv_aload_n X.1 X.2.1 dX11_gift_0 rfl (lv_at hl 0 rfl) ?_
  refine g11_3 X I (k := 0) (by decide) rfl lf_X11_35 dX11_gift_1 ?_
  refine lv_iload_n X.1 X.2.1 dX11_gift_4 rfl (lv_at hl 1 rfl) ?_
  refine r_ei I (r_runV X I pk_X8_isHouse (c8_isHouse l G (k := 10) ⟨by decide, rfl, rfl, rfl⟩ _ _ _) lm_X11_169 (by decide) (cl_8 rfl) rfl rfl rfl hl.1 rfl (Nat.le_of_ble_eq_true rfl) dX11_gift_5 ⟨Nat.le_of_ble_eq_true rfl, Nat.le_of_ble_eq_true rfl⟩ ⟨Nat.le_refl 0, Nat.le_refl 0⟩) (fun H locs I => ?_)
  refine lv_if_ne (tgt := 17) X.1 X.2.1 dX11_gift_8 (by decide) (fun c_1 => ?_) (fun c_1 => ?_)
  · skip
    have hE := ite_t hE (b2i_y c_1)
    refine lv_iload_n X.1 X.2.1 dX11_gift_17 rfl (lv_at hl 2 rfl) ?_
    refine lv_iconst (v := 1) X.1 X.2.1 dX11_gift_18 (by decide) ?_
    refine lv_icmp_lt (tgt := 40) X.1 X.2.1 dX11_gift_19 (by decide) (fun c_2 => ?_) (fun c_2 => ?_)
    · skip
      have hE := ite_t hE c_2
      refine lv_aload_n X.1 X.2.1 dX11_gift_40 rfl (lv_at hl 0 rfl) ?_
      refine lv_iconst (v := 1) X.1 X.2.1 dX11_gift_41 (by decide) ?_
      refine r_ei I (r_runV X I pk_X11_refused (c11_refused l G _ _ _) lm_X11_226 (by decide) (cl_11 rfl) rfl rfl rfl hl.1 rfl (Nat.le_of_ble_eq_true rfl) dX11_gift_42 ⟨Nat.le_of_ble_eq_true rfl, Nat.le_of_ble_eq_true rfl⟩ ⟨Nat.le_refl 0, Nat.le_refl 0⟩) (fun H locs I => ?_)
      have h9 := hE
      exact r_iret X I (e_i (congrArg Prod.fst h9).symm (congrArg Prod.snd h9).symm rfl) dX11_gift_45
    · skip
      have hE := ite_f hE c_2
      refine lv_iload_n X.1 X.2.1 dX11_gift_22 rfl (lv_at hl 2 rfl) ?_
      refine lv_bipush (v := 30) X.1 X.2.1 dX11_gift_23 (by decide) ?_
      refine lv_icmp_gt (tgt := 40) X.1 X.2.1 dX11_gift_25 (by decide) (fun c_3 => ?_) (fun c_3 => ?_)
      · skip
        have hE := ite_t hE c_3
        refine lv_aload_n X.1 X.2.1 dX11_gift_40 rfl (lv_at hl 0 rfl) ?_
        refine lv_iconst (v := 1) X.1 X.2.1 dX11_gift_41 (by decide) ?_
        refine r_ei I (r_runV X I pk_X11_refused (c11_refused l G _ _ _) lm_X11_226 (by decide) (cl_11 rfl) rfl rfl rfl hl.1 rfl (Nat.le_of_ble_eq_true rfl) dX11_gift_42 ⟨Nat.le_of_ble_eq_true rfl, Nat.le_of_ble_eq_true rfl⟩ ⟨Nat.le_refl 0, Nat.le_refl 0⟩) (fun H locs I => ?_)
        have h9 := hE
        exact r_iret X I (e_i (congrArg Prod.fst h9).symm (congrArg Prod.snd h9).symm rfl) dX11_gift_45
      · skip
        have hE := ite_f hE c_3
        refine lv_iload_n X.1 X.2.1 dX11_gift_28 rfl (lv_at hl 2 rfl) ?_
        refine lv_aload_n X.1 X.2.1 dX11_gift_29 rfl (lv_at hl 0 rfl) ?_
        refine g11_5 X I (k := 0) (by decide) rfl lf_X11_49 dX11_gift_30 ?_
        refine lv_iload_n X.1 X.2.1 dX11_gift_33 rfl (lv_at hl 1 rfl) ?_
        refine r_ei I (r_runV X I pk_X0_grievanceOf (c0_grievanceOf l G (k := 24) ⟨by decide, rfl, rfl⟩ _ _ _) lm_X11_182 (by decide) (cl_0 rfl) rfl rfl rfl hl.1 rfl (Nat.le_of_ble_eq_true rfl) dX11_gift_34 ⟨Nat.le_of_ble_eq_true rfl, Nat.le_of_ble_eq_true rfl⟩ ⟨Nat.le_refl 0, Nat.le_refl 0⟩) (fun H locs I => ?_)
        refine lv_icmp_le (tgt := 46) X.1 X.2.1 dX11_gift_37 (by decide) (fun c_4 => ?_) (fun c_4 => ?_)
        · skip
          have hE := ite_t hE c_4
          refine lv_iload_n X.1 X.2.1 dX11_gift_46 rfl (lv_at hl 2 rfl) ?_
          refine lv_aload_n X.1 X.2.1 dX11_gift_47 rfl (lv_at hl 0 rfl) ?_
          refine g11_5 X I (k := 0) (by decide) rfl lf_X11_49 dX11_gift_48 ?_
          refine g0_1 X I (k := 24) (by decide) rfl lf_X11_160 dX11_gift_51 ?_
          refine lv_icmp_le (tgt := 63) X.1 X.2.1 dX11_gift_54 (by decide) (fun c_5 => ?_) (fun c_5 => ?_)
          · skip
            have hE := ite_t hE c_5
            refine lv_aload_n X.1 X.2.1 dX11_gift_63 rfl (lv_at hl 0 rfl) ?_
            refine g11_6 X I (k := 0) (by decide) rfl lf_X11_56 dX11_gift_64 ?_
            refine lv_aload_n X.1 X.2.1 dX11_gift_67 rfl (lv_at hl 0 rfl) ?_
            refine g11_5 X I (k := 0) (by decide) rfl lf_X11_49 dX11_gift_68 ?_
            refine r_ev I (r_runV X I pk_X5_keep (c5_keep l G (k1 := 24) ⟨by decide, rfl, rfl⟩ _ _) lm_X11_235 (by decide) (cl_5 rfl) rfl rfl rfl hl.1 rfl (Nat.le_of_ble_eq_true rfl) dX11_gift_71 ⟨Nat.le_of_ble_eq_true rfl, Nat.le_of_ble_eq_true rfl⟩ ⟨Nat.le_refl 0, Nat.le_refl 0⟩) (fun H locs I => ?_)
            refine lv_aload_n X.1 X.2.1 dX11_gift_74 rfl (lv_at hl 0 rfl) ?_
            refine g11_5 X I (k := 0) (by decide) rfl lf_X11_49 dX11_gift_75 ?_
            refine lv_dup X.1 X.2.1 dX11_gift_78 rfl ?_
            refine g0_1 X I (k := 24) (by decide) rfl lf_X11_160 dX11_gift_79 ?_
            refine lv_iload_n X.1 X.2.1 dX11_gift_82 rfl (lv_at hl 2 rfl) ?_
            refine lv_isub X.1 X.2.1 dX11_gift_83 ?_
            refine p0_1 X I (k := 24) (by decide) rfl lf_X11_160 dX11_gift_84 (fun H locs I => ?_)
            refine lv_aload_n X.1 X.2.1 dX11_gift_87 rfl (lv_at hl 0 rfl) ?_
            refine g11_5 X I (k := 0) (by decide) rfl lf_X11_49 dX11_gift_88 ?_
            refine lv_iload_n X.1 X.2.1 dX11_gift_91 rfl (lv_at hl 1 rfl) ?_
            refine lv_aload_n X.1 X.2.1 dX11_gift_92 rfl (lv_at hl 0 rfl) ?_
            refine g11_5 X I (k := 0) (by decide) rfl lf_X11_49 dX11_gift_93 ?_
            refine lv_iload_n X.1 X.2.1 dX11_gift_96 rfl (lv_at hl 1 rfl) ?_
            refine r_ei I (r_runV X I pk_X0_grievanceOf (c0_grievanceOf l G (k := 24) ⟨by decide, rfl, rfl⟩ _ _ _) lm_X11_182 (by decide) (cl_0 rfl) rfl rfl rfl hl.1 rfl (Nat.le_of_ble_eq_true rfl) dX11_gift_97 ⟨Nat.le_of_ble_eq_true rfl, Nat.le_of_ble_eq_true rfl⟩ ⟨Nat.le_refl 0, Nat.le_refl 0⟩) (fun H locs I => ?_)
            refine lv_iload_n X.1 X.2.1 dX11_gift_100 rfl (lv_at hl 2 rfl) ?_
            refine lv_isub X.1 X.2.1 dX11_gift_101 ?_
            refine r_ev I (r_runV X I pk_X0_setGrievance (c0_setGrievance l G (k := 24) ⟨by decide, rfl, rfl⟩ _ _ _ _) lm_X11_255 (by decide) (cl_0 rfl) rfl rfl rfl hl.1 rfl (Nat.le_of_ble_eq_true rfl) dX11_gift_102 ⟨Nat.le_of_ble_eq_true rfl, Nat.le_of_ble_eq_true rfl⟩ ⟨Nat.le_refl 0, Nat.le_refl 0⟩) (fun H locs I => ?_)
            refine lv_aload_n X.1 X.2.1 dX11_gift_105 rfl (lv_at hl 0 rfl) ?_
            refine g11_5 X I (k := 0) (by decide) rfl lf_X11_49 dX11_gift_106 ?_
            refine lv_iload_n X.1 X.2.1 dX11_gift_109 rfl (lv_at hl 1 rfl) ?_
            refine r_ei I (r_runV X I pk_X0_grievanceOf (c0_grievanceOf l G (k := 24) ⟨by decide, rfl, rfl⟩ _ _ _) lm_X11_182 (by decide) (cl_0 rfl) rfl rfl rfl hl.1 rfl (Nat.le_of_ble_eq_true rfl) dX11_gift_110 ⟨Nat.le_of_ble_eq_true rfl, Nat.le_of_ble_eq_true rfl⟩ ⟨Nat.le_refl 0, Nat.le_refl 0⟩) (fun H locs I => ?_)
            have h9 := hE
            exact r_iret X I (e_i (pr_fst h9) (pr_snd h9) rfl) dX11_gift_113
          · skip
            have hE := ite_f hE c_5
            refine lv_aload_n X.1 X.2.1 dX11_gift_57 rfl (lv_at hl 0 rfl) ?_
            refine lv_iconst (v := 3) X.1 X.2.1 dX11_gift_58 (by decide) ?_
            refine r_ei I (r_runV X I pk_X11_refused (c11_refused l G _ _ _) lm_X11_226 (by decide) (cl_11 rfl) rfl rfl rfl hl.1 rfl (Nat.le_of_ble_eq_true rfl) dX11_gift_59 ⟨Nat.le_of_ble_eq_true rfl, Nat.le_of_ble_eq_true rfl⟩ ⟨Nat.le_refl 0, Nat.le_refl 0⟩) (fun H locs I => ?_)
            have h9 := hE
            exact r_iret X I (e_i (congrArg Prod.fst h9).symm (congrArg Prod.snd h9).symm rfl) dX11_gift_62
        · skip
          have hE := ite_f hE c_4
          refine lv_aload_n X.1 X.2.1 dX11_gift_40 rfl (lv_at hl 0 rfl) ?_
          refine lv_iconst (v := 1) X.1 X.2.1 dX11_gift_41 (by decide) ?_
          refine r_ei I (r_runV X I pk_X11_refused (c11_refused l G _ _ _) lm_X11_226 (by decide) (cl_11 rfl) rfl rfl rfl hl.1 rfl (Nat.le_of_ble_eq_true rfl) dX11_gift_42 ⟨Nat.le_of_ble_eq_true rfl, Nat.le_of_ble_eq_true rfl⟩ ⟨Nat.le_refl 0, Nat.le_refl 0⟩) (fun H locs I => ?_)
          have h9 := hE
          exact r_iret X I (e_i (congrArg Prod.fst h9).symm (congrArg Prod.snd h9).symm rfl) dX11_gift_45
  · skip
    have hE := ite_f hE (b2i_n c_1)
    refine lv_aload_n X.1 X.2.1 dX11_gift_11 rfl (lv_at hl 0 rfl) ?_
    refine lv_iconst (v := 0) X.1 X.2.1 dX11_gift_12 (by decide) ?_
    refine r_ei I (r_runV X I pk_X11_refused (c11_refused l G _ _ _) lm_X11_226 (by decide) (cl_11 rfl) rfl rfl rfl hl.1 rfl (Nat.le_of_ble_eq_true rfl) dX11_gift_13 ⟨Nat.le_of_ble_eq_true rfl, Nat.le_of_ble_eq_true rfl⟩ ⟨Nat.le_refl 0, Nat.le_refl 0⟩) (fun H locs I => ?_)
    have h9 := hE
    exact r_iret X I (e_i (congrArg Prod.fst h9).symm (congrArg Prod.snd h9).symm rfl) dX11_gift_16
noncomputable def f11_give (σ : SI) (x1 : Int32) : Int32 × SI := if (f8_isTold 10 σ) = true then (if x1 < (1 : Int32) then (let r0 := (f11_refused σ (1 : Int32)); r0) else (if (50 : Int32) < x1 then (let r1 := (f11_refused σ (1 : Int32)); r1) else (if x1 ≤ ((999 : Int32) - (σ 24 1)) then (let s2 := (f5_keep 24 σ); let s3 := sp s2 24 1 ((s2 24 1) + x1); (((s2 24 1) + x1), s3)) else (let r4 := (f11_refused σ (1 : Int32)); r4)))) else (let r5 := (f11_refused σ (0 : Int32)); r5)
theorem w_f11_give (σ : SI) (x1 : Int32) (a : Nat) (h0 : a ≠ 24) (h1 : a ≠ 26) (h2 : a ≠ 39) (h3 : a < 43 ∨ 123 ≤ a) : (f11_give σ x1).2 a = σ a := by
  refine fp_to2 ?_
  unfold f11_give
  exact (fr_ite2 (fr_ite2 (w_f11_refused _ _ a h2) (fr_ite2 (w_f11_refused _ _ a h2) (fr_ite2 (fr_mk21 ((sp_n h0).trans (w_f5_keep _ a h1 h3))) (w_f11_refused _ _ a h2)))) (w_f11_refused _ _ a h2))
set_option maxHeartbeats 4000000 in
set_option maxRecDepth 100000 in
theorem c11_give (l : Launch) (G : GT) (σ : SI) (τ : SL) (x1 : Int32) : Mc l yX11_give cX11_give 2 (some .int) 4 G [.ref (G.2.1 0), .int x1] σ τ (Qi G (Ei (f11_give σ x1).1 (f11_give σ x1).2 τ)) := by
  refine m_start (by decide +kernel) (Nat.le_of_ble_eq_true rfl) rfl (fun p e s m args below meth c ls X I hl => ?_)
  have hl : lv_has ls 2 [(0, .ref (G.2.1 0)), (1, .int x1)] := hl
  obtain ⟨E, hE⟩ : ∃ E, E = (f11_give σ x1) := ⟨_, rfl⟩
  rw [← hE]
  refine lv_aload_n X.1 X.2.1 dX11_give_0 rfl (lv_at hl 0 rfl) ?_
  refine g11_3 X I (k := 0) (by decide) rfl lf_X11_35 dX11_give_1 ?_
  refine r_ei I (r_runV X I pk_X8_isTold (c8_isTold l G (k := 10) ⟨by decide, rfl, rfl, rfl⟩ _ _) lm_X11_154 (by decide) (cl_8 rfl) rfl rfl rfl hl.1 rfl (Nat.le_of_ble_eq_true rfl) dX11_give_4 ⟨Nat.le_of_ble_eq_true rfl, Nat.le_of_ble_eq_true rfl⟩ ⟨Nat.le_refl 0, Nat.le_refl 0⟩) (fun H locs I => ?_)
  refine lv_if_ne (tgt := 16) X.1 X.2.1 dX11_give_7 (by decide) (fun c_1 => ?_) (fun c_1 => ?_)
  · skip
    have hE := ite_t hE (b2i_y c_1)
    refine lv_iload_n X.1 X.2.1 dX11_give_16 rfl (lv_at hl 1 rfl) ?_
    refine lv_iconst (v := 1) X.1 X.2.1 dX11_give_17 (by decide) ?_
    refine lv_icmp_lt (tgt := 42) X.1 X.2.1 dX11_give_18 (by decide) (fun c_2 => ?_) (fun c_2 => ?_)
    · skip
      have hE := ite_t hE c_2
      refine lv_aload_n X.1 X.2.1 dX11_give_42 rfl (lv_at hl 0 rfl) ?_
      refine lv_iconst (v := 1) X.1 X.2.1 dX11_give_43 (by decide) ?_
      refine r_ei I (r_runV X I pk_X11_refused (c11_refused l G _ _ _) lm_X11_226 (by decide) (cl_11 rfl) rfl rfl rfl hl.1 rfl (Nat.le_of_ble_eq_true rfl) dX11_give_44 ⟨Nat.le_of_ble_eq_true rfl, Nat.le_of_ble_eq_true rfl⟩ ⟨Nat.le_refl 0, Nat.le_refl 0⟩) (fun H locs I => ?_)
      have h9 := hE
      exact r_iret X I (e_i (congrArg Prod.fst h9).symm (congrArg Prod.snd h9).symm rfl) dX11_give_47
    · skip
      have hE := ite_f hE c_2
      refine lv_iload_n X.1 X.2.1 dX11_give_21 rfl (lv_at hl 1 rfl) ?_
      refine lv_bipush (v := 50) X.1 X.2.1 dX11_give_22 (by decide) ?_
      refine lv_icmp_gt (tgt := 42) X.1 X.2.1 dX11_give_24 (by decide) (fun c_3 => ?_) (fun c_3 => ?_)
      · skip
        have hE := ite_t hE c_3
        refine lv_aload_n X.1 X.2.1 dX11_give_42 rfl (lv_at hl 0 rfl) ?_
        refine lv_iconst (v := 1) X.1 X.2.1 dX11_give_43 (by decide) ?_
        refine r_ei I (r_runV X I pk_X11_refused (c11_refused l G _ _ _) lm_X11_226 (by decide) (cl_11 rfl) rfl rfl rfl hl.1 rfl (Nat.le_of_ble_eq_true rfl) dX11_give_44 ⟨Nat.le_of_ble_eq_true rfl, Nat.le_of_ble_eq_true rfl⟩ ⟨Nat.le_refl 0, Nat.le_refl 0⟩) (fun H locs I => ?_)
        have h9 := hE
        exact r_iret X I (e_i (congrArg Prod.fst h9).symm (congrArg Prod.snd h9).symm rfl) dX11_give_47
      · skip
        have hE := ite_f hE c_3
        refine lv_iload_n X.1 X.2.1 dX11_give_27 rfl (lv_at hl 1 rfl) ?_
        refine lv_sipush (v := 999) X.1 X.2.1 dX11_give_28 (by decide) ?_
        refine lv_aload_n X.1 X.2.1 dX11_give_31 rfl (lv_at hl 0 rfl) ?_
        refine g11_5 X I (k := 0) (by decide) rfl lf_X11_49 dX11_give_32 ?_
        refine g0_1 X I (k := 24) (by decide) rfl lf_X11_160 dX11_give_35 ?_
        refine lv_isub X.1 X.2.1 dX11_give_38 ?_
        refine lv_icmp_le (tgt := 48) X.1 X.2.1 dX11_give_39 (by decide) (fun c_4 => ?_) (fun c_4 => ?_)
        · skip
          have hE := ite_t hE c_4
          refine lv_aload_n X.1 X.2.1 dX11_give_48 rfl (lv_at hl 0 rfl) ?_
          refine g11_6 X I (k := 0) (by decide) rfl lf_X11_56 dX11_give_49 ?_
          refine lv_aload_n X.1 X.2.1 dX11_give_52 rfl (lv_at hl 0 rfl) ?_
          refine g11_5 X I (k := 0) (by decide) rfl lf_X11_49 dX11_give_53 ?_
          refine r_ev I (r_runV X I pk_X5_keep (c5_keep l G (k1 := 24) ⟨by decide, rfl, rfl⟩ _ _) lm_X11_235 (by decide) (cl_5 rfl) rfl rfl rfl hl.1 rfl (Nat.le_of_ble_eq_true rfl) dX11_give_56 ⟨Nat.le_of_ble_eq_true rfl, Nat.le_of_ble_eq_true rfl⟩ ⟨Nat.le_refl 0, Nat.le_refl 0⟩) (fun H locs I => ?_)
          refine lv_aload_n X.1 X.2.1 dX11_give_59 rfl (lv_at hl 0 rfl) ?_
          refine g11_5 X I (k := 0) (by decide) rfl lf_X11_49 dX11_give_60 ?_
          refine lv_dup X.1 X.2.1 dX11_give_63 rfl ?_
          refine g0_1 X I (k := 24) (by decide) rfl lf_X11_160 dX11_give_64 ?_
          refine lv_iload_n X.1 X.2.1 dX11_give_67 rfl (lv_at hl 1 rfl) ?_
          refine lv_iadd X.1 X.2.1 dX11_give_68 ?_
          refine p0_1 X I (k := 24) (by decide) rfl lf_X11_160 dX11_give_69 (fun H locs I => ?_)
          refine lv_aload_n X.1 X.2.1 dX11_give_72 rfl (lv_at hl 0 rfl) ?_
          refine g11_5 X I (k := 0) (by decide) rfl lf_X11_49 dX11_give_73 ?_
          refine g0_1 X I (k := 24) (by decide) rfl lf_X11_160 dX11_give_76 ?_
          have h9 := hE
          exact r_iret X I (e_i (pr_fst h9) (pr_snd h9) rfl) dX11_give_79
        · skip
          have hE := ite_f hE c_4
          refine lv_aload_n X.1 X.2.1 dX11_give_42 rfl (lv_at hl 0 rfl) ?_
          refine lv_iconst (v := 1) X.1 X.2.1 dX11_give_43 (by decide) ?_
          refine r_ei I (r_runV X I pk_X11_refused (c11_refused l G _ _ _) lm_X11_226 (by decide) (cl_11 rfl) rfl rfl rfl hl.1 rfl (Nat.le_of_ble_eq_true rfl) dX11_give_44 ⟨Nat.le_of_ble_eq_true rfl, Nat.le_of_ble_eq_true rfl⟩ ⟨Nat.le_refl 0, Nat.le_refl 0⟩) (fun H locs I => ?_)
          have h9 := hE
          exact r_iret X I (e_i (congrArg Prod.fst h9).symm (congrArg Prod.snd h9).symm rfl) dX11_give_47
  · skip
    have hE := ite_f hE (b2i_n c_1)
    refine lv_aload_n X.1 X.2.1 dX11_give_10 rfl (lv_at hl 0 rfl) ?_
    refine lv_iconst (v := 0) X.1 X.2.1 dX11_give_11 (by decide) ?_
    refine r_ei I (r_runV X I pk_X11_refused (c11_refused l G _ _ _) lm_X11_226 (by decide) (cl_11 rfl) rfl rfl rfl hl.1 rfl (Nat.le_of_ble_eq_true rfl) dX11_give_12 ⟨Nat.le_of_ble_eq_true rfl, Nat.le_of_ble_eq_true rfl⟩ ⟨Nat.le_refl 0, Nat.le_refl 0⟩) (fun H locs I => ?_)
    have h9 := hE
    exact r_iret X I (e_i (congrArg Prod.fst h9).symm (congrArg Prod.snd h9).symm rfl) dX11_give_15
noncomputable def f11_grown (σ : SI) (x1 : Int32) (x2 : Int32) : Int32 := if (f8_isThankful 10 σ x1) = true then (f0_grievanceOf 24 σ x1) else (if ((f0_grievanceOf 24 σ x1) + (x2 * (f8_growth 10 σ))) < (30 : Int32) then ((f0_grievanceOf 24 σ x1) + (x2 * (f8_growth 10 σ))) else (30 : Int32))
set_option maxHeartbeats 4000000 in
set_option maxRecDepth 100000 in
theorem c11_grown (l : Launch) (G : GT) (σ : SI) (τ : SL) (x1 : Int32) (x2 : Int32) : Mc l yX11_grown cX11_grown 4 (some .int) 2 G [.ref (G.2.1 0), .int x1, .int x2] σ τ (Qi G (Ei (f11_grown σ x1 x2) σ τ)) := by
  refine m_start (by decide +kernel) (Nat.le_of_ble_eq_true rfl) rfl (fun p e s m args below meth c ls X I hl => ?_)
  have hl : lv_has ls 4 [(0, .ref (G.2.1 0)), (1, .int x1), (2, .int x2)] := hl
  obtain ⟨E, hE⟩ : ∃ E, E = (f11_grown σ x1 x2) := ⟨_, rfl⟩
  rw [← hE]
  refine lv_aload_n X.1 X.2.1 dX11_grown_0 rfl (lv_at hl 0 rfl) ?_
  refine g11_5 X I (k := 0) (by decide) rfl lf_X11_49 dX11_grown_1 ?_
  refine lv_iload_n X.1 X.2.1 dX11_grown_4 rfl (lv_at hl 1 rfl) ?_
  refine r_ei I (r_runV X I pk_X0_grievanceOf (c0_grievanceOf l G (k := 24) ⟨by decide, rfl, rfl⟩ _ _ _) lm_X11_182 (by decide) (cl_0 rfl) rfl rfl rfl hl.1 rfl (Nat.le_of_ble_eq_true rfl) dX11_grown_5 ⟨Nat.le_of_ble_eq_true rfl, Nat.le_of_ble_eq_true rfl⟩ ⟨Nat.le_refl 0, Nat.le_refl 0⟩) (fun H locs I => ?_)
  refine lv_istore_n (lv' := [(3, .int _), (0, .ref _), (1, .int _), (2, .int _)]) X.1 X.2.1 dX11_grown_8 rfl hl (by decide) rfl (fun ls hl => ?_)
  refine lv_aload_n X.1 X.2.1 dX11_grown_9 rfl (lv_at hl 1 rfl) ?_
  refine g11_3 X I (k := 0) (by decide) rfl lf_X11_35 dX11_grown_10 ?_
  refine lv_iload_n X.1 X.2.1 dX11_grown_13 rfl (lv_at hl 2 rfl) ?_
  refine r_ei I (r_runV X I pk_X8_isThankful (c8_isThankful l G (k := 10) ⟨by decide, rfl, rfl, rfl⟩ _ _ _) lm_X11_185 (by decide) (cl_8 rfl) rfl rfl rfl hl.1 rfl (Nat.le_of_ble_eq_true rfl) dX11_grown_14 ⟨Nat.le_of_ble_eq_true rfl, Nat.le_of_ble_eq_true rfl⟩ ⟨Nat.le_refl 0, Nat.le_refl 0⟩) (fun H locs I => ?_)
  refine lv_if_eq (tgt := 22) X.1 X.2.1 dX11_grown_17 (by decide) (fun c_1 => ?_) (fun c_1 => ?_)
  · skip
    have hE := ite_f hE (b2i_n c_1)
    refine lv_bipush (v := 30) X.1 X.2.1 dX11_grown_22 (by decide) ?_
    refine lv_iload_n X.1 X.2.1 dX11_grown_24 rfl (lv_at hl 0 rfl) ?_
    refine lv_iload_n X.1 X.2.1 dX11_grown_25 rfl (lv_at hl 3 rfl) ?_
    refine lv_aload_n X.1 X.2.1 dX11_grown_26 rfl (lv_at hl 1 rfl) ?_
    refine g11_3 X I (k := 0) (by decide) rfl lf_X11_35 dX11_grown_27 ?_
    refine r_ei I (r_runV X I pk_X8_growth (c8_growth l G (k := 10) ⟨by decide, rfl, rfl, rfl⟩ _ _) lm_X11_163 (by decide) (cl_8 rfl) rfl rfl rfl hl.1 rfl (Nat.le_of_ble_eq_true rfl) dX11_grown_30 ⟨Nat.le_of_ble_eq_true rfl, Nat.le_of_ble_eq_true rfl⟩ ⟨Nat.le_refl 0, Nat.le_refl 0⟩) (fun H locs I => ?_)
    refine lv_imul X.1 X.2.1 dX11_grown_33 ?_
    refine lv_iadd X.1 X.2.1 dX11_grown_34 ?_
    refine r_mmin X hl.1 lm_X11_283 ls_J9_min_7cf53 ln_J9 lc_J9_min_7cf53 (Nat.le_of_ble_eq_true rfl) (Nat.le_of_ble_eq_true rfl) (Nat.le_refl 0) (Nat.le_refl 0) dX11_grown_35 ?_
    have h9 := hE
    exact r_iret X I (e_i h9.symm rfl rfl) dX11_grown_38
  · skip
    have hE := ite_t hE (b2i_y c_1)
    refine lv_iload_n X.1 X.2.1 dX11_grown_20 rfl (lv_at hl 0 rfl) ?_
    have h9 := hE
    exact r_iret X I (e_i h9.symm rfl rfl) dX11_grown_21
noncomputable def f11_goBy_c22 : Nat → Int32 → SI → SI
  | 0, _, σ => σ
  | fu + 1, v1, σ => if (f8_houses 10 σ) ≤ v1 then σ else (let s2 := (f0_setGrievance 24 σ v1 (f11_grown σ v1 (1 : Int32))); (f11_goBy_c22 fu (v1 + 1) s2))
noncomputable def f11_goBy (σ : SI) : SI := let s0 := sp σ 24 6 ((σ 24 6) + (1 : Int32)); let s1 := (f0_goHome 24 s0); (f11_goBy_c22 (fu1 ((Int32.toInt (f8_houses 10 s1) - Int32.toInt (0 : Int32)).toNat)) (0 : Int32) s1)
theorem w_f11_goBy_c22 (a : Nat) (h0 : a ≠ 24) (h1 : a ≠ 25) : ∀ (fu : Nat) (v1 : Int32) (σ : SI), (f11_goBy_c22 fu v1 σ) a = σ a := by
  intro fu
  induction fu with
  | zero => intro v1 σ; exact rfl
  | succ fu ih =>
    intro v1 σ
    unfold f11_goBy_c22
    exact (fr_ite rfl ((ih _ _).trans (w_f0_setGrievance _ _ _ a h1)))
theorem w_f11_goBy (σ : SI) (a : Nat) (h0 : a ≠ 24) (h1 : a ≠ 25) : (f11_goBy σ) a = σ a := by
  unfold f11_goBy
  exact ((w_f11_goBy_c22 a h0 h1 _ _ _).trans ((w_f0_goHome _ a h0).trans (sp_n h0)))
set_option maxHeartbeats 4000000 in
set_option maxRecDepth 100000 in
theorem c11_goBy_c22 {l : Launch} {p : Program} {e : Env} {s : State} {m : MethodId} {args : Array Value} {below : List Frame} {meth : Method} {c : Code} {G : GT} (X : CX p s m args meth c cX11_goBy RX11 2 none G) {E : SI} (τ : SL) : ∀ (fu : Nat) (v1 : Int32) (σ : SI) (H : Heap) (locs : List Loc) (ls : Array Slot), IX G s H locs σ τ → lv_has ls 2 [(0, .ref (G.2.1 0)), (1, .int v1)] → (Int32.toInt (f8_houses 10 σ) - Int32.toInt v1).toNat < fu → E = (f11_goBy_c22 fu v1 σ) → W p l e (rmN 3) s m args below meth c H locs 0 0 (MQ below ((Qv G (Ev E τ)) s.heap.size) args s 0 0 (AW G s.heap.size)) (F0 m 22 ls []) := by
  intro fu
  induction fu with
  | zero =>
    intro v1 σ H locs ls I hl  hm hE
    exact absurd hm (Nat.not_lt_zero _)
  | succ fu ih =>
    intro v1 σ H locs ls I hl  hm hE
    refine lv_iload_n X.1 X.2.1 dX11_goBy_22 rfl (lv_at hl 1 rfl) ?_
    refine lv_aload_n X.1 X.2.1 dX11_goBy_23 rfl (lv_at hl 0 rfl) ?_
    refine g11_3 X I (k := 0) (by decide) rfl lf_X11_35 dX11_goBy_24 ?_
    refine r_ei I (r_runV X I pk_X8_houses (c8_houses l G (k := 10) ⟨by decide, rfl, rfl, rfl⟩ _ _) lm_X11_151 (by decide) (cl_8 rfl) rfl rfl rfl hl.1 rfl (Nat.le_of_ble_eq_true rfl) dX11_goBy_27 ⟨Nat.le_of_ble_eq_true rfl, Nat.le_of_ble_eq_true rfl⟩ ⟨Nat.le_refl 0, Nat.le_refl 0⟩) (fun H locs I => ?_)
    refine lv_icmp_ge (tgt := 53) X.1 X.2.1 dX11_goBy_30 (by decide) (fun c_1 => ?_) (fun c_1 => ?_)
    · skip
      have hE := ite_t hE c_1
      have h9 := hE
      exact r_vret X I (e_v h9.symm rfl) dX11_goBy_53
    · skip
      have hE := ite_f hE c_1
      refine lv_aload_n X.1 X.2.1 dX11_goBy_33 rfl (lv_at hl 0 rfl) ?_
      refine g11_5 X I (k := 0) (by decide) rfl lf_X11_49 dX11_goBy_34 ?_
      refine lv_iload_n X.1 X.2.1 dX11_goBy_37 rfl (lv_at hl 1 rfl) ?_
      refine lv_aload_n X.1 X.2.1 dX11_goBy_38 rfl (lv_at hl 0 rfl) ?_
      refine lv_iload_n X.1 X.2.1 dX11_goBy_39 rfl (lv_at hl 1 rfl) ?_
      refine lv_iconst (v := 1) X.1 X.2.1 dX11_goBy_40 (by decide) ?_
      refine r_ei I (r_runV X I pk_X11_grown (c11_grown l G _ _ _ _) lm_X11_280 (by decide) (cl_11 rfl) rfl rfl rfl hl.1 rfl (Nat.le_of_ble_eq_true rfl) dX11_goBy_41 ⟨Nat.le_of_ble_eq_true rfl, Nat.le_of_ble_eq_true rfl⟩ ⟨Nat.le_refl 0, Nat.le_refl 0⟩) (fun H locs I => ?_)
      refine r_ev I (r_runV X I pk_X0_setGrievance (c0_setGrievance l G (k := 24) ⟨by decide, rfl, rfl⟩ _ _ _ _) lm_X11_255 (by decide) (cl_0 rfl) rfl rfl rfl hl.1 rfl (Nat.le_of_ble_eq_true rfl) dX11_goBy_44 ⟨Nat.le_of_ble_eq_true rfl, Nat.le_of_ble_eq_true rfl⟩ ⟨Nat.le_refl 0, Nat.le_refl 0⟩) (fun H locs I => ?_)
      refine lv_iinc (v := _ + 1) (lv' := [(1, .int _), (0, .ref _)]) X.1 X.2.1 dX11_goBy_47 hl (k := 1) rfl rfl (by decide) rfl (fun ls hl => ?_)
      refine lv_goto (tgt := 22) X.1 X.2.1 dX11_goBy_50 (by decide) ?_
      exact ih _ _ _ _ _ I (lv_sub hl [1, 0] rfl) (Nat.lt_of_lt_of_le (dec_c (by first | with_reducible rfl | simp [f8_houses, f11_cell, w_f0_goHome, w_f0_setGrievance, sp_n]) (up_dec c_1)) (Nat.le_of_lt_succ hm)) (hE.trans (rfl))
set_option maxHeartbeats 4000000 in
set_option maxRecDepth 100000 in
theorem c11_goBy (l : Launch) (G : GT) (σ : SI) (τ : SL) : Mc l yX11_goBy cX11_goBy 2 none 3 G [.ref (G.2.1 0)] σ τ (Qv G (Ev (f11_goBy σ) τ)) := by
  refine m_start (by decide +kernel) (Nat.le_of_ble_eq_true rfl) rfl (fun p e s m args below meth c ls X I hl => ?_)
  have hl : lv_has ls 2 [(0, .ref (G.2.1 0))] := hl
  obtain ⟨E, hE⟩ : ∃ E, E = (f11_goBy σ) := ⟨_, rfl⟩
  rw [← hE]
  refine lv_aload_n X.1 X.2.1 dX11_goBy_0 rfl (lv_at hl 0 rfl) ?_
  refine g11_5 X I (k := 0) (by decide) rfl lf_X11_49 dX11_goBy_1 ?_
  refine lv_dup X.1 X.2.1 dX11_goBy_4 rfl ?_
  refine g0_6 X I (k := 24) (by decide) rfl lf_X11_219 dX11_goBy_5 ?_
  refine lv_iconst (v := 1) X.1 X.2.1 dX11_goBy_8 (by decide) ?_
  refine lv_iadd X.1 X.2.1 dX11_goBy_9 ?_
  refine p0_6 X I (k := 24) (by decide) rfl lf_X11_219 dX11_goBy_10 (fun H locs I => ?_)
  refine lv_aload_n X.1 X.2.1 dX11_goBy_13 rfl (lv_at hl 0 rfl) ?_
  refine g11_5 X I (k := 0) (by decide) rfl lf_X11_49 dX11_goBy_14 ?_
  refine r_ev I (r_runV X I pk_X0_goHome (c0_goHome l G (k := 24) ⟨by decide, rfl, rfl⟩ _ _) lm_X11_277 (by decide) (cl_0 rfl) rfl rfl rfl hl.1 rfl (Nat.le_of_ble_eq_true rfl) dX11_goBy_17 ⟨Nat.le_of_ble_eq_true rfl, Nat.le_of_ble_eq_true rfl⟩ ⟨Nat.le_refl 0, Nat.le_refl 0⟩) (fun H locs I => ?_)
  refine lv_iconst (v := 0) X.1 X.2.1 dX11_goBy_20 (by decide) ?_
  refine lv_istore_n (lv' := [(1, .int _), (0, .ref _)]) X.1 X.2.1 dX11_goBy_21 rfl hl (by decide) rfl (fun ls hl => ?_)
  exact c11_goBy_c22 X _  _ _ _ _ _ _ I (lv_sub hl [1, 0] rfl) (fu1_lt _) (hE.trans (rfl))
