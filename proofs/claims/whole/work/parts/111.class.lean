noncomputable def f8_timeThereIs (k : Nat) (σ : SI) : Int32 := (f11_cell (k + 1) 36 σ (0 : Int32))
set_option maxHeartbeats 4000000 in
set_option maxRecDepth 100000 in
theorem c8_timeThereIs (l : Launch) (G : GT) {k : Nat} (hk : isTown k) (σ : SI) (τ : SL) : Mc l yX8_timeThereIs cX8_timeThereIs 1 (some .int) 1 G [.ref (G.2.1 k)] σ τ (Qi G (Ei (f8_timeThereIs k σ) σ τ)) := by
  refine m_start (by decide +kernel) (Nat.le_of_ble_eq_true rfl) rfl (fun p e s m args below meth c ls X I hl => ?_)
  have hl : lv_has ls 1 [(0, .ref (G.2.1 k))] := hl
  obtain ⟨E, hE⟩ : ∃ E, E = (f8_timeThereIs k σ) := ⟨_, rfl⟩
  rw [← hE]
  refine lv_aload_n X.1 X.2.1 dX8_timeThereIs_0 rfl (lv_at hl 0 rfl) ?_
  refine g8_0 X I (k := k) (Nat.lt_of_le_of_lt (Nat.add_le_add_left (show 0 ≤ 2 by decide) k) hk.1) hk.2.1 lf_X8_9 dX8_timeThereIs_1 ?_
  refine lv_iconst (v := 0) X.1 X.2.1 dX8_timeThereIs_4 (by decide) ?_
  refine r_ei I (r_runN X I pk_X11_cell (c11_cell l G (k := (k + 1)) (n := 36) (Nat.lt_of_le_of_lt (Nat.add_le_add_left (show 1 ≤ 2 by decide) k) hk.1) hk.2.2.1 (by decide) _ _ _) (by decide +kernel) rfl hl.1 rfl (Nat.le_of_ble_eq_true rfl) dX8_timeThereIs_5 ⟨Nat.le_of_ble_eq_true rfl, Nat.le_of_ble_eq_true rfl⟩ ⟨Nat.le_refl 0, Nat.le_refl 0⟩) (fun H locs I => ?_)
  have h9 := hE
  exact r_iret X I (e_i h9.symm rfl rfl) dX8_timeThereIs_8
noncomputable def f4_comesTo (σ : SI) (x1 : Int32) : Bool × SI := if (f8_isHouse 10 σ x1) = true then (if x1 = (σ 32 3) then (false, σ) else (if (f11_hasBit (σ 32 6) x1) = true then (false, σ) else (let r0 := (f2_standing σ (f0_grievanceOf 24 σ x1) (f8_isThankful 10 σ x1) ((σ 32 4) + (f8_distance 10 σ (σ 32 3) x1)) (fbitCount (σ 32 6)) (f8_distance 10 σ (σ 32 3) x1) (σ 24 6)); if (f8_timeThereIs 10 r0.2) < (((r0.2 32 4) + (f8_distance 10 σ (σ 32 3) x1)) + r0.1) then (false, r0.2) else (if ((r0.2 32 5) + (f8_distance 10 σ (σ 32 3) x1)) ≤ (f8_strength 10 r0.2) then (let s1 := (f4_stay r0.2 x1 (((r0.2 32 4) + (f8_distance 10 σ (σ 32 3) x1)) + r0.1) ((r0.2 32 5) + (f8_distance 10 σ (σ 32 3) x1)) ((r0.2 32 6) ||| ((1 : Int32) <<< (x1 &&& 31)))); let s2 := sp s1 32 7 r0.1; if (f8_isThankful 10 σ x1) = true then (let s4 := sp s2 32 8 (0 : Int32); (true, s4)) else (let s3 := sp s2 32 8 (if r0.1 < (f0_grievanceOf 24 σ x1) then r0.1 else (f0_grievanceOf 24 σ x1)); (true, s3))) else (false, r0.2))))) else (false, σ)
theorem w_f4_comesTo (σ : SI) (x1 : Int32) (a : Nat) (h0 : a ≠ 13) (h1 : a ≠ 15) (h2 : a ≠ 32) : (f4_comesTo σ x1).2 a = σ a := by
  refine fp_to2 ?_
  unfold f4_comesTo
  exact (fr_ite2 (fr_ite2 (fr_mk21 rfl) (fr_ite2 (fr_mk21 rfl) (fr_ite2 (fr_mk21 (w_f2_standing _ _ _ _ _ _ _ a h0 h1)) (fr_ite2 (fr_ite2 (fr_mk21 ((sp_n h2).trans ((sp_n h2).trans ((w_f4_stay _ _ _ _ _ a h2).trans (w_f2_standing _ _ _ _ _ _ _ a h0 h1))))) (fr_mk21 ((sp_n h2).trans ((sp_n h2).trans ((w_f4_stay _ _ _ _ _ a h2).trans (w_f2_standing _ _ _ _ _ _ _ a h0 h1)))))) (fr_mk21 (w_f2_standing _ _ _ _ _ _ _ a h0 h1)))))) (fr_mk21 rfl))
set_option maxHeartbeats 4000000 in
set_option maxRecDepth 100000 in
theorem c4_comesTo (l : Launch) (G : GT) (σ : SI) (τ : SL) (x1 : Int32) : Mc l yX4_comesTo cX4_comesTo 6 (some .boolean) 4 G [.ref (G.2.1 32), .int x1] σ τ (Qi G (Ei (b2i (f4_comesTo σ x1).1) (f4_comesTo σ x1).2 τ)) := by
  refine m_start (by decide +kernel) (Nat.le_of_ble_eq_true rfl) rfl (fun p e s m args below meth c ls X I hl => ?_)
  have hl : lv_has ls 6 [(0, .ref (G.2.1 32)), (1, .int x1)] := hl
  obtain ⟨E, hE⟩ : ∃ E, E = (f4_comesTo σ x1) := ⟨_, rfl⟩
  rw [← hE]
  refine lv_aload_n X.1 X.2.1 dX4_comesTo_0 rfl (lv_at hl 0 rfl) ?_
  refine g4_0 X I (k := 32) (by decide) rfl lf_X4_9 dX4_comesTo_1 ?_
  refine lv_iload_n X.1 X.2.1 dX4_comesTo_4 rfl (lv_at hl 1 rfl) ?_
  refine r_ei I (r_runV X I pk_X8_isHouse (c8_isHouse l G (k := 10) ⟨by decide, rfl, rfl, rfl⟩ _ _ _) lm_X4_46 (by decide) (cl_8 rfl) rfl rfl rfl hl.1 rfl (Nat.le_of_ble_eq_true rfl) dX4_comesTo_5 ⟨Nat.le_of_ble_eq_true rfl, Nat.le_of_ble_eq_true rfl⟩ ⟨Nat.le_refl 0, Nat.le_refl 0⟩) (fun H locs I => ?_)
  refine lv_if_eq (tgt := 30) X.1 X.2.1 dX4_comesTo_8 (by decide) (fun c_1 => ?_) (fun c_1 => ?_)
  · skip
    have hE := ite_f hE (b2i_n c_1)
    refine lv_iconst (v := 0) X.1 X.2.1 dX4_comesTo_30 (by decide) ?_
    have h9 := hE
    exact r_zret X I rfl (e_i (congrArg b2i (pr_fst (a := false) h9)) (pr_snd h9) rfl) dX4_comesTo_31
  · skip
    have hE := ite_t hE (b2i_y c_1)
    refine lv_iload_n X.1 X.2.1 dX4_comesTo_11 rfl (lv_at hl 1 rfl) ?_
    refine lv_aload_n X.1 X.2.1 dX4_comesTo_12 rfl (lv_at hl 0 rfl) ?_
    refine g4_3 X I (k := 32) (by decide) rfl lf_X4_42 dX4_comesTo_13 ?_
    refine lv_icmp_eq (tgt := 30) X.1 X.2.1 dX4_comesTo_16 (by decide) (fun c_2 => ?_) (fun c_2 => ?_)
    · skip
      have hE := ite_t hE c_2
      refine lv_iconst (v := 0) X.1 X.2.1 dX4_comesTo_30 (by decide) ?_
      have h9 := hE
      exact r_zret X I rfl (e_i (congrArg b2i (pr_fst (a := false) h9)) (pr_snd h9) rfl) dX4_comesTo_31
    · skip
      have hE := ite_f hE c_2
      refine lv_aload_n X.1 X.2.1 dX4_comesTo_19 rfl (lv_at hl 0 rfl) ?_
      refine g4_6 X I (k := 32) (by decide) rfl lf_X4_45 dX4_comesTo_20 ?_
      refine lv_iload_n X.1 X.2.1 dX4_comesTo_23 rfl (lv_at hl 1 rfl) ?_
      refine r_ei I (r_runN X I pk_X11_hasBit (c11_hasBit l G _ _ _ _) (by decide +kernel) rfl hl.1 rfl (Nat.le_of_ble_eq_true rfl) dX4_comesTo_24 ⟨Nat.le_of_ble_eq_true rfl, Nat.le_of_ble_eq_true rfl⟩ ⟨Nat.le_refl 0, Nat.le_refl 0⟩) (fun H locs I => ?_)
      refine lv_if_eq (tgt := 32) X.1 X.2.1 dX4_comesTo_27 (by decide) (fun c_3 => ?_) (fun c_3 => ?_)
      · skip
        have hE := ite_f hE (b2i_n c_3)
        refine lv_aload_n X.1 X.2.1 dX4_comesTo_32 rfl (lv_at hl 0 rfl) ?_
        refine g4_0 X I (k := 32) (by decide) rfl lf_X4_9 dX4_comesTo_33 ?_
        refine lv_aload_n X.1 X.2.1 dX4_comesTo_36 rfl (lv_at hl 0 rfl) ?_
        refine g4_3 X I (k := 32) (by decide) rfl lf_X4_42 dX4_comesTo_37 ?_
        refine lv_iload_n X.1 X.2.1 dX4_comesTo_40 rfl (lv_at hl 1 rfl) ?_
        refine r_ei I (r_runV X I pk_X8_distance (c8_distance l G (k := 10) ⟨by decide, rfl, rfl, rfl⟩ _ _ _ _) lm_X4_56 (by decide) (cl_8 rfl) rfl rfl rfl hl.1 rfl (Nat.le_of_ble_eq_true rfl) dX4_comesTo_41 ⟨Nat.le_of_ble_eq_true rfl, Nat.le_of_ble_eq_true rfl⟩ ⟨Nat.le_refl 0, Nat.le_refl 0⟩) (fun H locs I => ?_)
        refine lv_istore_n (lv' := [(2, .int _), (0, .ref _), (1, .int _)]) X.1 X.2.1 dX4_comesTo_44 rfl hl (by decide) rfl (fun ls hl => ?_)
        refine lv_aload_n X.1 X.2.1 dX4_comesTo_45 rfl (lv_at hl 1 rfl) ?_
        refine g4_2 X I (k := 32) (by decide) rfl lf_X4_19 dX4_comesTo_46 ?_
        refine lv_iload_n X.1 X.2.1 dX4_comesTo_49 rfl (lv_at hl 2 rfl) ?_
        refine r_ei I (r_runV X I pk_X0_grievanceOf (c0_grievanceOf l G (k := 24) ⟨by decide, rfl, rfl⟩ _ _ _) lm_X4_60 (by decide) (cl_0 rfl) rfl rfl rfl hl.1 rfl (Nat.le_of_ble_eq_true rfl) dX4_comesTo_50 ⟨Nat.le_of_ble_eq_true rfl, Nat.le_of_ble_eq_true rfl⟩ ⟨Nat.le_refl 0, Nat.le_refl 0⟩) (fun H locs I => ?_)
        refine lv_istore_n (lv' := [(3, .int _), (2, .int _), (0, .ref _), (1, .int _)]) X.1 X.2.1 dX4_comesTo_53 rfl hl (by decide) rfl (fun ls hl => ?_)
        refine lv_aload_n X.1 X.2.1 dX4_comesTo_54 rfl (lv_at hl 2 rfl) ?_
        refine g4_0 X I (k := 32) (by decide) rfl lf_X4_9 dX4_comesTo_55 ?_
        refine lv_iload_n X.1 X.2.1 dX4_comesTo_58 rfl (lv_at hl 3 rfl) ?_
        refine r_ei I (r_runV X I pk_X8_isThankful (c8_isThankful l G (k := 10) ⟨by decide, rfl, rfl, rfl⟩ _ _ _) lm_X4_64 (by decide) (cl_8 rfl) rfl rfl rfl hl.1 rfl (Nat.le_of_ble_eq_true rfl) dX4_comesTo_59 ⟨Nat.le_of_ble_eq_true rfl, Nat.le_of_ble_eq_true rfl⟩ ⟨Nat.le_refl 0, Nat.le_refl 0⟩) (fun H locs I => ?_)
        refine lv_istore (lv' := [(4, .int _), (3, .int _), (2, .int _), (0, .ref _), (1, .int _)]) X.1 X.2.1 dX4_comesTo_62 hl (by decide) rfl (fun ls hl => ?_)
        refine lv_aload_n X.1 X.2.1 dX4_comesTo_64 rfl (lv_at hl 3 rfl) ?_
        refine g4_1 X I (k := 32) (by decide) rfl lf_X4_15 dX4_comesTo_65 ?_
        refine lv_iload_n X.1 X.2.1 dX4_comesTo_68 rfl (lv_at hl 1 rfl) ?_
        refine lv_iload X.1 X.2.1 dX4_comesTo_69 (lv_at hl 0 rfl) ?_
        refine lv_aload_n X.1 X.2.1 dX4_comesTo_71 rfl (lv_at hl 3 rfl) ?_
        refine g4_4 X I (k := 32) (by decide) rfl lf_X4_43 dX4_comesTo_72 ?_
        refine lv_iload_n X.1 X.2.1 dX4_comesTo_75 rfl (lv_at hl 2 rfl) ?_
        refine lv_iadd X.1 X.2.1 dX4_comesTo_76 ?_
        refine lv_aload_n X.1 X.2.1 dX4_comesTo_77 rfl (lv_at hl 3 rfl) ?_
        refine g4_6 X I (k := 32) (by decide) rfl lf_X4_45 dX4_comesTo_78 ?_
        refine r_ei I (r_runS X I pk_J6_bitCount_0f7a4 (cbitCount l G _ _ _) lm_X4_67 rfl hl.1 rfl (Nat.le_of_ble_eq_true rfl) dX4_comesTo_81 ⟨Nat.le_of_ble_eq_true rfl, Nat.le_of_ble_eq_true rfl⟩ ⟨Nat.le_refl 0, Nat.le_refl 0⟩) (fun H locs I => ?_)
        refine lv_iload_n X.1 X.2.1 dX4_comesTo_84 rfl (lv_at hl 2 rfl) ?_
        refine lv_aload_n X.1 X.2.1 dX4_comesTo_85 rfl (lv_at hl 3 rfl) ?_
        refine g4_2 X I (k := 32) (by decide) rfl lf_X4_19 dX4_comesTo_86 ?_
        refine g0_6 X I (k := 24) (by decide) rfl lf_X4_72 dX4_comesTo_89 ?_
        refine r_ei I (r_runV X I pk_X2_standing (c2_standing l G _ _ _ _ _ _ _ _) lm_X4_75 (by decide) (cl_2 rfl) rfl rfl rfl hl.1 rfl (Nat.le_of_ble_eq_true rfl) dX4_comesTo_92 ⟨Nat.le_of_ble_eq_true rfl, Nat.le_of_ble_eq_true rfl⟩ ⟨Nat.le_refl 0, Nat.le_refl 0⟩) (fun H locs I => ?_)
        refine lv_istore (lv' := [(5, .int _), (4, .int _), (3, .int _), (2, .int _), (0, .ref _), (1, .int _)]) X.1 X.2.1 dX4_comesTo_95 hl (by decide) rfl (fun ls hl => ?_)
        refine lv_aload_n X.1 X.2.1 dX4_comesTo_97 rfl (lv_at hl 4 rfl) ?_
        refine g4_4 X I (k := 32) (by decide) rfl lf_X4_43 dX4_comesTo_98 ?_
        refine lv_iload_n X.1 X.2.1 dX4_comesTo_101 rfl (lv_at hl 3 rfl) ?_
        refine lv_iadd X.1 X.2.1 dX4_comesTo_102 ?_
        refine lv_iload X.1 X.2.1 dX4_comesTo_103 (lv_at hl 0 rfl) ?_
        refine lv_iadd X.1 X.2.1 dX4_comesTo_105 ?_
        refine lv_aload_n X.1 X.2.1 dX4_comesTo_106 rfl (lv_at hl 4 rfl) ?_
        refine g4_0 X I (k := 32) (by decide) rfl lf_X4_9 dX4_comesTo_107 ?_
        refine r_ei I (r_runV X I pk_X8_timeThereIs (c8_timeThereIs l G (k := 10) ⟨by decide, rfl, rfl, rfl⟩ _ _) lm_X4_81 (by decide) (cl_8 rfl) rfl rfl rfl hl.1 rfl (Nat.le_of_ble_eq_true rfl) dX4_comesTo_110 ⟨Nat.le_of_ble_eq_true rfl, Nat.le_of_ble_eq_true rfl⟩ ⟨Nat.le_refl 0, Nat.le_refl 0⟩) (fun H locs I => ?_)
        refine lv_icmp_gt (tgt := 132) X.1 X.2.1 dX4_comesTo_113 (by decide) (fun c_4 => ?_) (fun c_4 => ?_)
        · skip
          have hE := ite_t hE c_4
          refine lv_iconst (v := 0) X.1 X.2.1 dX4_comesTo_132 (by decide) ?_
          have h9 := hE
          exact r_zret X I rfl (e_i (congrArg b2i (pr_fst (a := false) h9)) (pr_snd h9) rfl) dX4_comesTo_133
        · skip
          have hE := ite_f hE c_4
          refine lv_aload_n X.1 X.2.1 dX4_comesTo_116 rfl (lv_at hl 4 rfl) ?_
          refine g4_5 X I (k := 32) (by decide) rfl lf_X4_44 dX4_comesTo_117 ?_
          refine lv_iload_n X.1 X.2.1 dX4_comesTo_120 rfl (lv_at hl 3 rfl) ?_
          refine lv_iadd X.1 X.2.1 dX4_comesTo_121 ?_
          refine lv_aload_n X.1 X.2.1 dX4_comesTo_122 rfl (lv_at hl 4 rfl) ?_
          refine g4_0 X I (k := 32) (by decide) rfl lf_X4_9 dX4_comesTo_123 ?_
          refine r_ei I (r_runV X I pk_X8_strength (c8_strength l G (k := 10) ⟨by decide, rfl, rfl, rfl⟩ _ _) lm_X4_85 (by decide) (cl_8 rfl) rfl rfl rfl hl.1 rfl (Nat.le_of_ble_eq_true rfl) dX4_comesTo_126 ⟨Nat.le_of_ble_eq_true rfl, Nat.le_of_ble_eq_true rfl⟩ ⟨Nat.le_refl 0, Nat.le_refl 0⟩) (fun H locs I => ?_)
          refine lv_icmp_le (tgt := 134) X.1 X.2.1 dX4_comesTo_129 (by decide) (fun c_5 => ?_) (fun c_5 => ?_)
          · skip
            have hE := ite_t hE c_5
            refine lv_aload_n X.1 X.2.1 dX4_comesTo_134 rfl (lv_at hl 4 rfl) ?_
            refine lv_iload_n X.1 X.2.1 dX4_comesTo_135 rfl (lv_at hl 5 rfl) ?_
            refine lv_aload_n X.1 X.2.1 dX4_comesTo_136 rfl (lv_at hl 4 rfl) ?_
            refine g4_4 X I (k := 32) (by decide) rfl lf_X4_43 dX4_comesTo_137 ?_
            refine lv_iload_n X.1 X.2.1 dX4_comesTo_140 rfl (lv_at hl 3 rfl) ?_
            refine lv_iadd X.1 X.2.1 dX4_comesTo_141 ?_
            refine lv_iload X.1 X.2.1 dX4_comesTo_142 (lv_at hl 0 rfl) ?_
            refine lv_iadd X.1 X.2.1 dX4_comesTo_144 ?_
            refine lv_aload_n X.1 X.2.1 dX4_comesTo_145 rfl (lv_at hl 4 rfl) ?_
            refine g4_5 X I (k := 32) (by decide) rfl lf_X4_44 dX4_comesTo_146 ?_
            refine lv_iload_n X.1 X.2.1 dX4_comesTo_149 rfl (lv_at hl 3 rfl) ?_
            refine lv_iadd X.1 X.2.1 dX4_comesTo_150 ?_
            refine lv_aload_n X.1 X.2.1 dX4_comesTo_151 rfl (lv_at hl 4 rfl) ?_
            refine g4_6 X I (k := 32) (by decide) rfl lf_X4_45 dX4_comesTo_152 ?_
            refine lv_iconst (v := 1) X.1 X.2.1 dX4_comesTo_155 (by decide) ?_
            refine lv_iload_n X.1 X.2.1 dX4_comesTo_156 rfl (lv_at hl 5 rfl) ?_
            refine lv_ishl X.1 X.2.1 dX4_comesTo_157 ?_
            refine lv_ior X.1 X.2.1 dX4_comesTo_158 ?_
            refine r_ev I (r_runV X I pk_X4_stay (c4_stay l G _ _ _ _ _ _) lm_X4_38 (by decide) (cl_4 rfl) rfl rfl rfl hl.1 rfl (Nat.le_of_ble_eq_true rfl) dX4_comesTo_159 ⟨Nat.le_of_ble_eq_true rfl, Nat.le_of_ble_eq_true rfl⟩ ⟨Nat.le_refl 0, Nat.le_refl 0⟩) (fun H locs I => ?_)
            refine lv_aload_n X.1 X.2.1 dX4_comesTo_162 rfl (lv_at hl 4 rfl) ?_
            refine lv_iload X.1 X.2.1 dX4_comesTo_163 (lv_at hl 0 rfl) ?_
            refine p4_7 X I (k := 32) (by decide) rfl lf_X4_88 dX4_comesTo_165 (fun H locs I => ?_)
            refine lv_aload_n X.1 X.2.1 dX4_comesTo_168 rfl (lv_at hl 4 rfl) ?_
            refine lv_iload X.1 X.2.1 dX4_comesTo_169 (lv_at hl 1 rfl) ?_
            refine lv_if_eq (tgt := 178) X.1 X.2.1 dX4_comesTo_171 (by decide) (fun c_6 => ?_) (fun c_6 => ?_)
            · skip
              have hE := ite_f hE (b2i_n c_6)
              refine lv_iload_n X.1 X.2.1 dX4_comesTo_178 rfl (lv_at hl 2 rfl) ?_
              refine lv_iload X.1 X.2.1 dX4_comesTo_179 (lv_at hl 0 rfl) ?_
              refine r_mmin X hl.1 lm_X4_91 ls_J9_min_7cf53 ln_J9 lc_J9_min_7cf53 (Nat.le_of_ble_eq_true rfl) (Nat.le_of_ble_eq_true rfl) (Nat.le_refl 0) (Nat.le_refl 0) dX4_comesTo_181 ?_
              refine p4_8 X I (k := 32) (by decide) rfl lf_X4_96 dX4_comesTo_184 (fun H locs I => ?_)
              refine lv_iconst (v := 1) X.1 X.2.1 dX4_comesTo_187 (by decide) ?_
              have h9 := hE
              exact r_zret X I rfl (e_i (congrArg b2i (pr_fst (a := true) h9)) (pr_snd h9) rfl) dX4_comesTo_188
            · skip
              have hE := ite_t hE (b2i_y c_6)
              refine lv_iconst (v := 0) X.1 X.2.1 dX4_comesTo_174 (by decide) ?_
              refine lv_goto (tgt := 184) X.1 X.2.1 dX4_comesTo_175 (by decide) ?_
              refine p4_8 X I (k := 32) (by decide) rfl lf_X4_96 dX4_comesTo_184 (fun H locs I => ?_)
              refine lv_iconst (v := 1) X.1 X.2.1 dX4_comesTo_187 (by decide) ?_
              have h9 := hE
              exact r_zret X I rfl (e_i (congrArg b2i (pr_fst (a := true) h9)) (pr_snd h9) rfl) dX4_comesTo_188
          · skip
            have hE := ite_f hE c_5
            refine lv_iconst (v := 0) X.1 X.2.1 dX4_comesTo_132 (by decide) ?_
            have h9 := hE
            exact r_zret X I rfl (e_i (congrArg b2i (pr_fst (a := false) h9)) (pr_snd h9) rfl) dX4_comesTo_133
      · skip
        have hE := ite_t hE (b2i_y c_3)
        refine lv_iconst (v := 0) X.1 X.2.1 dX4_comesTo_30 (by decide) ?_
        have h9 := hE
        exact r_zret X I rfl (e_i (congrArg b2i (pr_fst (a := false) h9)) (pr_snd h9) rfl) dX4_comesTo_31
noncomputable def f4_consider (σ : SI) (x1 : Int32) (x2 : Int32) (x3 : Int32) : SI := if (σ 32 11) < x3 then (let s0 := sp σ 32 9 x2; let s1 := sp s0 32 10 x1; let s2 := sp s1 32 11 x3; let s3 := sp s2 32 12 (σ 32 4); s3) else (if x3 = (σ 32 11) then (if (σ 32 10) ≤ x1 then σ else (let s4 := sp σ 32 9 x2; let s5 := sp s4 32 10 x1; let s6 := sp s5 32 11 x3; let s7 := sp s6 32 12 (σ 32 4); s7)) else σ)
theorem w_f4_consider (σ : SI) (x1 : Int32) (x2 : Int32) (x3 : Int32) (a : Nat) (h0 : a ≠ 32) : (f4_consider σ x1 x2 x3) a = σ a := by
  unfold f4_consider
  exact (fr_ite ((sp_n h0).trans ((sp_n h0).trans ((sp_n h0).trans (sp_n h0)))) (fr_ite (fr_ite rfl ((sp_n h0).trans ((sp_n h0).trans ((sp_n h0).trans (sp_n h0))))) rfl))
set_option maxHeartbeats 4000000 in
set_option maxRecDepth 100000 in
theorem c4_consider (l : Launch) (G : GT) (σ : SI) (τ : SL) (x1 : Int32) (x2 : Int32) (x3 : Int32) : Mc l yX4_consider cX4_consider 4 none 0 G [.ref (G.2.1 32), .int x1, .int x2, .int x3] σ τ (Qv G (Ev (f4_consider σ x1 x2 x3) τ)) := by
  refine m_start (by decide +kernel) (Nat.le_of_ble_eq_true rfl) rfl (fun p e s m args below meth c ls X I hl => ?_)
  have hl : lv_has ls 4 [(0, .ref (G.2.1 32)), (1, .int x1), (2, .int x2), (3, .int x3)] := hl
  obtain ⟨E, hE⟩ : ∃ E, E = (f4_consider σ x1 x2 x3) := ⟨_, rfl⟩
  rw [← hE]
  refine lv_iload_n X.1 X.2.1 dX4_consider_0 rfl (lv_at hl 3 rfl) ?_
  refine lv_aload_n X.1 X.2.1 dX4_consider_1 rfl (lv_at hl 0 rfl) ?_
  refine g4_11 X I (k := 32) (by decide) rfl lf_X4_108 dX4_consider_2 ?_
  refine lv_icmp_gt (tgt := 24) X.1 X.2.1 dX4_consider_5 (by decide) (fun c_1 => ?_) (fun c_1 => ?_)
  · skip
    have hE := ite_t hE c_1
    refine lv_aload_n X.1 X.2.1 dX4_consider_24 rfl (lv_at hl 0 rfl) ?_
    refine lv_iload_n X.1 X.2.1 dX4_consider_25 rfl (lv_at hl 2 rfl) ?_
    refine p4_9 X I (k := 32) (by decide) rfl lf_X4_102 dX4_consider_26 (fun H locs I => ?_)
    refine lv_aload_n X.1 X.2.1 dX4_consider_29 rfl (lv_at hl 0 rfl) ?_
    refine lv_iload_n X.1 X.2.1 dX4_consider_30 rfl (lv_at hl 1 rfl) ?_
    refine p4_10 X I (k := 32) (by decide) rfl lf_X4_105 dX4_consider_31 (fun H locs I => ?_)
    refine lv_aload_n X.1 X.2.1 dX4_consider_34 rfl (lv_at hl 0 rfl) ?_
    refine lv_iload_n X.1 X.2.1 dX4_consider_35 rfl (lv_at hl 3 rfl) ?_
    refine p4_11 X I (k := 32) (by decide) rfl lf_X4_108 dX4_consider_36 (fun H locs I => ?_)
    refine lv_aload_n X.1 X.2.1 dX4_consider_39 rfl (lv_at hl 0 rfl) ?_
    refine lv_aload_n X.1 X.2.1 dX4_consider_40 rfl (lv_at hl 0 rfl) ?_
    refine g4_4 X I (k := 32) (by decide) rfl lf_X4_43 dX4_consider_41 ?_
    refine p4_12 X I (k := 32) (by decide) rfl lf_X4_111 dX4_consider_44 (fun H locs I => ?_)
    have h9 := hE
    exact r_vret X I (e_v h9.symm rfl) dX4_consider_47
  · skip
    have hE := ite_f hE c_1
    refine lv_iload_n X.1 X.2.1 dX4_consider_8 rfl (lv_at hl 3 rfl) ?_
    refine lv_aload_n X.1 X.2.1 dX4_consider_9 rfl (lv_at hl 0 rfl) ?_
    refine g4_11 X I (k := 32) (by decide) rfl lf_X4_108 dX4_consider_10 ?_
    refine lv_icmp_ne (tgt := 47) X.1 X.2.1 dX4_consider_13 (by decide) (fun c_2 => ?_) (fun c_2 => ?_)
    · skip
      have hE := ite_f hE c_2
      have h9 := hE
      exact r_vret X I (e_v h9.symm rfl) dX4_consider_47
    · skip
      have hE := ite_t hE c_2
      refine lv_iload_n X.1 X.2.1 dX4_consider_16 rfl (lv_at hl 1 rfl) ?_
      refine lv_aload_n X.1 X.2.1 dX4_consider_17 rfl (lv_at hl 0 rfl) ?_
      refine g4_10 X I (k := 32) (by decide) rfl lf_X4_105 dX4_consider_18 ?_
      refine lv_icmp_ge (tgt := 47) X.1 X.2.1 dX4_consider_21 (by decide) (fun c_3 => ?_) (fun c_3 => ?_)
      · skip
        have hE := ite_t hE c_3
        have h9 := hE
        exact r_vret X I (e_v h9.symm rfl) dX4_consider_47
      · skip
        have hE := ite_f hE c_3
        refine lv_aload_n X.1 X.2.1 dX4_consider_24 rfl (lv_at hl 0 rfl) ?_
        refine lv_iload_n X.1 X.2.1 dX4_consider_25 rfl (lv_at hl 2 rfl) ?_
        refine p4_9 X I (k := 32) (by decide) rfl lf_X4_102 dX4_consider_26 (fun H locs I => ?_)
        refine lv_aload_n X.1 X.2.1 dX4_consider_29 rfl (lv_at hl 0 rfl) ?_
        refine lv_iload_n X.1 X.2.1 dX4_consider_30 rfl (lv_at hl 1 rfl) ?_
        refine p4_10 X I (k := 32) (by decide) rfl lf_X4_105 dX4_consider_31 (fun H locs I => ?_)
        refine lv_aload_n X.1 X.2.1 dX4_consider_34 rfl (lv_at hl 0 rfl) ?_
        refine lv_iload_n X.1 X.2.1 dX4_consider_35 rfl (lv_at hl 3 rfl) ?_
        refine p4_11 X I (k := 32) (by decide) rfl lf_X4_108 dX4_consider_36 (fun H locs I => ?_)
        refine lv_aload_n X.1 X.2.1 dX4_consider_39 rfl (lv_at hl 0 rfl) ?_
        refine lv_aload_n X.1 X.2.1 dX4_consider_40 rfl (lv_at hl 0 rfl) ?_
        refine g4_4 X I (k := 32) (by decide) rfl lf_X4_43 dX4_consider_41 ?_
        refine p4_12 X I (k := 32) (by decide) rfl lf_X4_111 dX4_consider_44 (fun H locs I => ?_)
        have h9 := hE
        exact r_vret X I (e_v h9.symm rfl) dX4_consider_47
noncomputable def f4_isHopeless_c5 (σ : SI) (x1 : Int32) (x2 : Int32) : Nat → Int32 → Int32 → Bool
  | 0, _, _ => false
  | fu + 1, v3, v4 => if (f8_houses 10 σ) ≤ v4 then (if v3 < (σ 32 11) then true else (if v3 = (σ 32 11) then (if (x1 + (1 : Int32)) < (σ 32 10) then false else true) else false)) else (if (f11_hasBit (σ 32 6) v4) = true then (f4_isHopeless_c5 σ x1 x2 fu v3 (v4 + 1)) else (if (f8_isThankful 10 σ v4) = true then (f4_isHopeless_c5 σ x1 x2 fu v3 (v4 + 1)) else (f4_isHopeless_c5 σ x1 x2 fu (v3 + (f0_grievanceOf 24 σ v4)) (v4 + 1))))
noncomputable def f4_isHopeless (σ : SI) (x1 : Int32) (x2 : Int32) : Bool := (f4_isHopeless_c5 σ x1 x2 (fu1 ((Int32.toInt (f8_houses 10 σ) - Int32.toInt (0 : Int32)).toNat)) x2 (0 : Int32))
set_option maxHeartbeats 4000000 in
set_option maxRecDepth 100000 in
theorem c4_isHopeless_c5 {l : Launch} {p : Program} {e : Env} {s : State} {m : MethodId} {args : Array Value} {below : List Frame} {meth : Method} {c : Code} {G : GT} (X : CX p s m args meth c cX4_isHopeless RX4 5 (some .boolean) G) {E : Bool} (σ : SI) (τ : SL) (x1 : Int32) (x2 : Int32) : ∀ (fu : Nat) (v3 : Int32) (v4 : Int32) (H : Heap) (locs : List Loc) (ls : Array Slot), IX G s H locs σ τ → lv_has ls 5 [(0, .ref (G.2.1 32)), (1, .int x1), (2, .int x2), (3, .int v3), (4, .int v4)] → (Int32.toInt (f8_houses 10 σ) - Int32.toInt v4).toNat < fu → E = (f4_isHopeless_c5 σ x1 x2 fu v3 v4) → W p l e (rmN 2) s m args below meth c H locs 0 0 (MQ below ((Qi G (Ei (b2i E) σ τ)) s.heap.size) args s 0 0 (AW G s.heap.size)) (F0 m 5 ls []) := by
  intro fu
  induction fu with
  | zero =>
    intro v3 v4 H locs ls I hl  hm hE
    exact absurd hm (Nat.not_lt_zero _)
  | succ fu ih =>
    intro v3 v4 H locs ls I hl  hm hE
    refine lv_iload X.1 X.2.1 dX4_isHopeless_5 (lv_at hl 4 rfl) ?_
    refine lv_aload_n X.1 X.2.1 dX4_isHopeless_7 rfl (lv_at hl 0 rfl) ?_
    refine g4_0 X I (k := 32) (by decide) rfl lf_X4_9 dX4_isHopeless_8 ?_
    refine r_ei I (r_runV X I pk_X8_houses (c8_houses l G (k := 10) ⟨by decide, rfl, rfl, rfl⟩ _ _) lm_X4_121 (by decide) (cl_8 rfl) rfl rfl rfl hl.1 rfl (Nat.le_of_ble_eq_true rfl) dX4_isHopeless_11 ⟨Nat.le_of_ble_eq_true rfl, Nat.le_of_ble_eq_true rfl⟩ ⟨Nat.le_refl 0, Nat.le_refl 0⟩) (fun H locs I => ?_)
    refine lv_icmp_ge (tgt := 59) X.1 X.2.1 dX4_isHopeless_14 (by decide) (fun c_1 => ?_) (fun c_1 => ?_)
    · skip
      have hE := ite_t hE c_1
      refine lv_iload_n X.1 X.2.1 dX4_isHopeless_59 rfl (lv_at hl 3 rfl) ?_
      refine lv_aload_n X.1 X.2.1 dX4_isHopeless_60 rfl (lv_at hl 0 rfl) ?_
      refine g4_11 X I (k := 32) (by decide) rfl lf_X4_108 dX4_isHopeless_61 ?_
      refine lv_icmp_lt (tgt := 85) X.1 X.2.1 dX4_isHopeless_64 (by decide) (fun c_2 => ?_) (fun c_2 => ?_)
      · skip
        have hE := ite_t hE c_2
        refine lv_iconst (v := 1) X.1 X.2.1 dX4_isHopeless_85 (by decide) ?_
        refine lv_goto (tgt := 90) X.1 X.2.1 dX4_isHopeless_86 (by decide) ?_
        have h9 := hE
        exact r_zret X I rfl (e_i (congrArg b2i h9).symm rfl rfl) dX4_isHopeless_90
      · skip
        have hE := ite_f hE c_2
        refine lv_iload_n X.1 X.2.1 dX4_isHopeless_67 rfl (lv_at hl 3 rfl) ?_
        refine lv_aload_n X.1 X.2.1 dX4_isHopeless_68 rfl (lv_at hl 0 rfl) ?_
        refine g4_11 X I (k := 32) (by decide) rfl lf_X4_108 dX4_isHopeless_69 ?_
        refine lv_icmp_ne (tgt := 89) X.1 X.2.1 dX4_isHopeless_72 (by decide) (fun c_3 => ?_) (fun c_3 => ?_)
        · skip
          have hE := ite_f hE c_3
          refine lv_iconst (v := 0) X.1 X.2.1 dX4_isHopeless_89 (by decide) ?_
          have h9 := hE
          exact r_zret X I rfl (e_i (congrArg b2i h9).symm rfl rfl) dX4_isHopeless_90
        · skip
          have hE := ite_t hE c_3
          refine lv_iload_n X.1 X.2.1 dX4_isHopeless_75 rfl (lv_at hl 1 rfl) ?_
          refine lv_iconst (v := 1) X.1 X.2.1 dX4_isHopeless_76 (by decide) ?_
          refine lv_iadd X.1 X.2.1 dX4_isHopeless_77 ?_
          refine lv_aload_n X.1 X.2.1 dX4_isHopeless_78 rfl (lv_at hl 0 rfl) ?_
          refine g4_10 X I (k := 32) (by decide) rfl lf_X4_105 dX4_isHopeless_79 ?_
          refine lv_icmp_lt (tgt := 89) X.1 X.2.1 dX4_isHopeless_82 (by decide) (fun c_4 => ?_) (fun c_4 => ?_)
          · skip
            have hE := ite_t hE c_4
            refine lv_iconst (v := 0) X.1 X.2.1 dX4_isHopeless_89 (by decide) ?_
            have h9 := hE
            exact r_zret X I rfl (e_i (congrArg b2i h9).symm rfl rfl) dX4_isHopeless_90
          · skip
            have hE := ite_f hE c_4
            refine lv_iconst (v := 1) X.1 X.2.1 dX4_isHopeless_85 (by decide) ?_
            refine lv_goto (tgt := 90) X.1 X.2.1 dX4_isHopeless_86 (by decide) ?_
            have h9 := hE
            exact r_zret X I rfl (e_i (congrArg b2i h9).symm rfl rfl) dX4_isHopeless_90
    · skip
      have hE := ite_f hE c_1
      refine lv_aload_n X.1 X.2.1 dX4_isHopeless_17 rfl (lv_at hl 0 rfl) ?_
      refine g4_6 X I (k := 32) (by decide) rfl lf_X4_45 dX4_isHopeless_18 ?_
      refine lv_iload X.1 X.2.1 dX4_isHopeless_21 (lv_at hl 4 rfl) ?_
      refine r_ei I (r_runN X I pk_X11_hasBit (c11_hasBit l G _ _ _ _) (by decide +kernel) rfl hl.1 rfl (Nat.le_of_ble_eq_true rfl) dX4_isHopeless_23 ⟨Nat.le_of_ble_eq_true rfl, Nat.le_of_ble_eq_true rfl⟩ ⟨Nat.le_refl 0, Nat.le_refl 0⟩) (fun H locs I => ?_)
      refine lv_if_ne (tgt := 53) X.1 X.2.1 dX4_isHopeless_26 (by decide) (fun c_5 => ?_) (fun c_5 => ?_)
      · skip
        have hE := ite_t hE (b2i_y c_5)
        refine lv_iinc (v := _ + 1) (lv' := [(4, .int _), (0, .ref _), (1, .int _), (2, .int _), (3, .int _)]) X.1 X.2.1 dX4_isHopeless_53 hl (k := 4) rfl rfl (by decide) rfl (fun ls hl => ?_)
        refine lv_goto (tgt := 5) X.1 X.2.1 dX4_isHopeless_56 (by decide) ?_
        exact ih _ _ _ _ _ I (lv_sub hl [1, 2, 3, 4, 0] rfl) (Nat.lt_of_lt_of_le (up_dec c_1) (Nat.le_of_lt_succ hm)) (hE.trans (rfl))
      · skip
        have hE := ite_f hE (b2i_n c_5)
        refine lv_aload_n X.1 X.2.1 dX4_isHopeless_29 rfl (lv_at hl 0 rfl) ?_
        refine g4_0 X I (k := 32) (by decide) rfl lf_X4_9 dX4_isHopeless_30 ?_
        refine lv_iload X.1 X.2.1 dX4_isHopeless_33 (lv_at hl 4 rfl) ?_
        refine r_ei I (r_runV X I pk_X8_isThankful (c8_isThankful l G (k := 10) ⟨by decide, rfl, rfl, rfl⟩ _ _ _) lm_X4_64 (by decide) (cl_8 rfl) rfl rfl rfl hl.1 rfl (Nat.le_of_ble_eq_true rfl) dX4_isHopeless_35 ⟨Nat.le_of_ble_eq_true rfl, Nat.le_of_ble_eq_true rfl⟩ ⟨Nat.le_refl 0, Nat.le_refl 0⟩) (fun H locs I => ?_)
        refine lv_if_ne (tgt := 53) X.1 X.2.1 dX4_isHopeless_38 (by decide) (fun c_6 => ?_) (fun c_6 => ?_)
        · skip
          have hE := ite_t hE (b2i_y c_6)
          refine lv_iinc (v := _ + 1) (lv' := [(4, .int _), (0, .ref _), (1, .int _), (2, .int _), (3, .int _)]) X.1 X.2.1 dX4_isHopeless_53 hl (k := 4) rfl rfl (by decide) rfl (fun ls hl => ?_)
          refine lv_goto (tgt := 5) X.1 X.2.1 dX4_isHopeless_56 (by decide) ?_
          exact ih _ _ _ _ _ I (lv_sub hl [1, 2, 3, 4, 0] rfl) (Nat.lt_of_lt_of_le (up_dec c_1) (Nat.le_of_lt_succ hm)) (hE.trans (rfl))
        · skip
          have hE := ite_f hE (b2i_n c_6)
          refine lv_iload_n X.1 X.2.1 dX4_isHopeless_41 rfl (lv_at hl 3 rfl) ?_
          refine lv_aload_n X.1 X.2.1 dX4_isHopeless_42 rfl (lv_at hl 0 rfl) ?_
          refine g4_2 X I (k := 32) (by decide) rfl lf_X4_19 dX4_isHopeless_43 ?_
          refine lv_iload X.1 X.2.1 dX4_isHopeless_46 (lv_at hl 4 rfl) ?_
          refine r_ei I (r_runV X I pk_X0_grievanceOf (c0_grievanceOf l G (k := 24) ⟨by decide, rfl, rfl⟩ _ _ _) lm_X4_60 (by decide) (cl_0 rfl) rfl rfl rfl hl.1 rfl (Nat.le_of_ble_eq_true rfl) dX4_isHopeless_48 ⟨Nat.le_of_ble_eq_true rfl, Nat.le_of_ble_eq_true rfl⟩ ⟨Nat.le_refl 0, Nat.le_refl 0⟩) (fun H locs I => ?_)
          refine lv_iadd X.1 X.2.1 dX4_isHopeless_51 ?_
          refine lv_istore_n (lv' := [(3, .int _), (0, .ref _), (1, .int _), (2, .int _), (4, .int _)]) X.1 X.2.1 dX4_isHopeless_52 rfl hl (by decide) rfl (fun ls hl => ?_)
          refine lv_iinc (v := _ + 1) (lv' := [(4, .int _), (3, .int _), (0, .ref _), (1, .int _), (2, .int _)]) X.1 X.2.1 dX4_isHopeless_53 hl (k := 4) rfl rfl (by decide) rfl (fun ls hl => ?_)
          refine lv_goto (tgt := 5) X.1 X.2.1 dX4_isHopeless_56 (by decide) ?_
          exact ih _ _ _ _ _ I (lv_sub hl [2, 3, 4, 1, 0] rfl) (Nat.lt_of_lt_of_le (up_dec c_1) (Nat.le_of_lt_succ hm)) (hE.trans (rfl))
set_option maxHeartbeats 4000000 in
set_option maxRecDepth 100000 in
theorem c4_isHopeless (l : Launch) (G : GT) (σ : SI) (τ : SL) (x1 : Int32) (x2 : Int32) : Mc l yX4_isHopeless cX4_isHopeless 5 (some .boolean) 2 G [.ref (G.2.1 32), .int x1, .int x2] σ τ (Qi G (Ei (b2i (f4_isHopeless σ x1 x2)) σ τ)) := by
  refine m_start (by decide +kernel) (Nat.le_of_ble_eq_true rfl) rfl (fun p e s m args below meth c ls X I hl => ?_)
  have hl : lv_has ls 5 [(0, .ref (G.2.1 32)), (1, .int x1), (2, .int x2)] := hl
  obtain ⟨E, hE⟩ : ∃ E, E = (f4_isHopeless σ x1 x2) := ⟨_, rfl⟩
  rw [← hE]
  refine lv_iload_n X.1 X.2.1 dX4_isHopeless_0 rfl (lv_at hl 2 rfl) ?_
  refine lv_istore_n (lv' := [(3, .int _), (0, .ref _), (1, .int _), (2, .int _)]) X.1 X.2.1 dX4_isHopeless_1 rfl hl (by decide) rfl (fun ls hl => ?_)
  refine lv_iconst (v := 0) X.1 X.2.1 dX4_isHopeless_2 (by decide) ?_
  refine lv_istore (lv' := [(4, .int _), (3, .int _), (0, .ref _), (1, .int _), (2, .int _)]) X.1 X.2.1 dX4_isHopeless_3 hl (by decide) rfl (fun ls hl => ?_)
  exact c4_isHopeless_c5 X _ _ _ _ _ _ _ _ _ _ I (lv_sub hl [2, 3, 4, 1, 0] rfl) (fu1_lt _) (hE.trans (rfl))
