noncomputable def f12_gift (σ : SI) (x1 : Int32) (x2 : Int32) : Int32 × SI := if (f12_isHouse σ x1) = true then (if (f12_in x2 (1 : Int32) (30 : Int32)) = true then (if x2 ≤ (σ 140 (Int32.toNatClampNeg ((0 : Int32) + x1))) then (if x2 ≤ (σ 140 7) then (let r4 := (f12_isRefused σ (-1 : Int32)); if r4.1 = true then ((-1 : Int32), r4.2) else (let s5 := (f12_keep r4.2); let s6 := sp s5 140 (Int32.toNatClampNeg ((0 : Int32) + x1)) ((s5 140 (Int32.toNatClampNeg ((0 : Int32) + x1))) - x2); let s7 := sp s6 140 7 ((s6 140 7) - x2); ((s7 140 (Int32.toNatClampNeg ((0 : Int32) + x1))), s7))) else (let r8 := (f12_isRefused σ (3 : Int32)); if r8.1 = true then ((-1 : Int32), r8.2) else (let s9 := (f12_keep r8.2); let s10 := sp s9 140 (Int32.toNatClampNeg ((0 : Int32) + x1)) ((s9 140 (Int32.toNatClampNeg ((0 : Int32) + x1))) - x2); let s11 := sp s10 140 7 ((s10 140 7) - x2); ((s11 140 (Int32.toNatClampNeg ((0 : Int32) + x1))), s11)))) else (let r12 := (f12_isRefused σ (1 : Int32)); if r12.1 = true then ((-1 : Int32), r12.2) else (let s13 := (f12_keep r12.2); let s14 := sp s13 140 (Int32.toNatClampNeg ((0 : Int32) + x1)) ((s13 140 (Int32.toNatClampNeg ((0 : Int32) + x1))) - x2); let s15 := sp s14 140 7 ((s14 140 7) - x2); ((s15 140 (Int32.toNatClampNeg ((0 : Int32) + x1))), s15)))) else (let r0 := (f12_isRefused σ (1 : Int32)); if r0.1 = true then ((-1 : Int32), r0.2) else (let s1 := (f12_keep r0.2); let s2 := sp s1 140 (Int32.toNatClampNeg ((0 : Int32) + x1)) ((s1 140 (Int32.toNatClampNeg ((0 : Int32) + x1))) - x2); let s3 := sp s2 140 7 ((s2 140 7) - x2); ((s3 140 (Int32.toNatClampNeg ((0 : Int32) + x1))), s3)))) else (let r16 := (f12_isRefused σ (0 : Int32)); if r16.1 = true then ((-1 : Int32), r16.2) else (let s17 := (f12_keep r16.2); let s18 := sp s17 140 (Int32.toNatClampNeg ((0 : Int32) + x1)) ((s17 140 (Int32.toNatClampNeg ((0 : Int32) + x1))) - x2); let s19 := sp s18 140 7 ((s18 140 7) - x2); ((s19 140 (Int32.toNatClampNeg ((0 : Int32) + x1))), s19)))
noncomputable def o12_gift (σ : SI) (x1 : Int32) (x2 : Int32) : Prop := if (f12_isHouse σ x1) = true then (if (f12_in x2 (1 : Int32) (30 : Int32)) = true then ((vp_in ((0 : Int32) + x1) 255) ∧ (if x2 ≤ (σ 140 (Int32.toNatClampNeg ((0 : Int32) + x1))) then (if x2 ≤ (σ 140 7) then ((o12_isRefused σ (-1 : Int32)) ∧ (let r4 := (f12_isRefused σ (-1 : Int32)); if r4.1 = true then True else ((o12_keep r4.2) ∧ (let s5 := (f12_keep r4.2); (vp_in ((0 : Int32) + x1) 255) ∧ ((vp_in ((0 : Int32) + x1) 255) ∧ (let s6 := sp s5 140 (Int32.toNatClampNeg ((0 : Int32) + x1)) ((s5 140 (Int32.toNatClampNeg ((0 : Int32) + x1))) - x2); let s7 := sp s6 140 7 ((s6 140 7) - x2); (vp_in ((0 : Int32) + x1) 255) ∧ True)))))) else ((o12_isRefused σ (3 : Int32)) ∧ (let r8 := (f12_isRefused σ (3 : Int32)); if r8.1 = true then True else ((o12_keep r8.2) ∧ (let s9 := (f12_keep r8.2); (vp_in ((0 : Int32) + x1) 255) ∧ ((vp_in ((0 : Int32) + x1) 255) ∧ (let s10 := sp s9 140 (Int32.toNatClampNeg ((0 : Int32) + x1)) ((s9 140 (Int32.toNatClampNeg ((0 : Int32) + x1))) - x2); let s11 := sp s10 140 7 ((s10 140 7) - x2); (vp_in ((0 : Int32) + x1) 255) ∧ True))))))) else ((o12_isRefused σ (1 : Int32)) ∧ (let r12 := (f12_isRefused σ (1 : Int32)); if r12.1 = true then True else ((o12_keep r12.2) ∧ (let s13 := (f12_keep r12.2); (vp_in ((0 : Int32) + x1) 255) ∧ ((vp_in ((0 : Int32) + x1) 255) ∧ (let s14 := sp s13 140 (Int32.toNatClampNeg ((0 : Int32) + x1)) ((s13 140 (Int32.toNatClampNeg ((0 : Int32) + x1))) - x2); let s15 := sp s14 140 7 ((s14 140 7) - x2); (vp_in ((0 : Int32) + x1) 255) ∧ True)))))))) else ((o12_isRefused σ (1 : Int32)) ∧ (let r0 := (f12_isRefused σ (1 : Int32)); if r0.1 = true then True else ((o12_keep r0.2) ∧ (let s1 := (f12_keep r0.2); (vp_in ((0 : Int32) + x1) 255) ∧ ((vp_in ((0 : Int32) + x1) 255) ∧ (let s2 := sp s1 140 (Int32.toNatClampNeg ((0 : Int32) + x1)) ((s1 140 (Int32.toNatClampNeg ((0 : Int32) + x1))) - x2); let s3 := sp s2 140 7 ((s2 140 7) - x2); (vp_in ((0 : Int32) + x1) 255) ∧ True))))))) else ((o12_isRefused σ (0 : Int32)) ∧ (let r16 := (f12_isRefused σ (0 : Int32)); if r16.1 = true then True else ((o12_keep r16.2) ∧ (let s17 := (f12_keep r16.2); (vp_in ((0 : Int32) + x1) 255) ∧ ((vp_in ((0 : Int32) + x1) 255) ∧ (let s18 := sp s17 140 (Int32.toNatClampNeg ((0 : Int32) + x1)) ((s17 140 (Int32.toNatClampNeg ((0 : Int32) + x1))) - x2); let s19 := sp s18 140 7 ((s18 140 7) - x2); (vp_in ((0 : Int32) + x1) 255) ∧ True))))))
theorem w_f12_gift (σ : SI) (x1 : Int32) (x2 : Int32) (a : Nat) (h0 : a ≠ 123) (h1 : a ≠ 140) (h2 : a ≠ 141) (h3 : a ≠ 142) : (f12_gift σ x1 x2).2 a = σ a := by
  refine fp_to2 ?_
  unfold f12_gift
  exact (fr_ite2 (fr_ite2 (fr_ite2 (fr_ite2 (fr_ite2 (fr_mk21 (w_f12_isRefused _ _ a h2)) (fr_mk21 ((sp_n h1).trans ((sp_n h1).trans ((w_f12_keep _ a h0 h3).trans (w_f12_isRefused _ _ a h2)))))) (fr_ite2 (fr_mk21 (w_f12_isRefused _ _ a h2)) (fr_mk21 ((sp_n h1).trans ((sp_n h1).trans ((w_f12_keep _ a h0 h3).trans (w_f12_isRefused _ _ a h2))))))) (fr_ite2 (fr_mk21 (w_f12_isRefused _ _ a h2)) (fr_mk21 ((sp_n h1).trans ((sp_n h1).trans ((w_f12_keep _ a h0 h3).trans (w_f12_isRefused _ _ a h2))))))) (fr_ite2 (fr_mk21 (w_f12_isRefused _ _ a h2)) (fr_mk21 ((sp_n h1).trans ((sp_n h1).trans ((w_f12_keep _ a h0 h3).trans (w_f12_isRefused _ _ a h2))))))) (fr_ite2 (fr_mk21 (w_f12_isRefused _ _ a h2)) (fr_mk21 ((sp_n h1).trans ((sp_n h1).trans ((w_f12_keep _ a h0 h3).trans (w_f12_isRefused _ _ a h2)))))))
set_option maxHeartbeats 4000000 in
set_option maxRecDepth 100000 in
theorem c12_gift (l : Launch) (G : GT) (σ : SI) (τ : SL) (x1 : Int32) (x2 : Int32) (ho : o12_gift σ x1 x2) : Mc l yX12_gift cX12_gift 3 (some .int) 2 G [.ref (G.2.1 123), .int x1, .int x2] σ τ (Qi G (Ei (f12_gift σ x1 x2).1 (f12_gift σ x1 x2).2 τ)) := by
  refine m_start (by decide +kernel) (Nat.le_of_ble_eq_true rfl) rfl (fun p e s m args below meth c ls X I hl => ?_)
  have hl : lv_has ls 3 [(0, .ref (G.2.1 123)), (1, .int x1), (2, .int x2)] := hl
  obtain ⟨E, hE⟩ : ∃ E, E = (f12_gift σ x1 x2) := ⟨_, rfl⟩
  rw [← hE]
  unfold o12_gift at ho
  refine lv_aload_n X.1 X.2.1 dX12_gift_0 rfl (lv_at hl 0 rfl) ?_
  refine lv_aload_n X.1 X.2.1 dX12_gift_1 rfl (lv_at hl 0 rfl) ?_
  refine lv_iload_n X.1 X.2.1 dX12_gift_2 rfl (lv_at hl 1 rfl) ?_
  refine r_ei I (r_runV X I pk_X12_isHouse (c12_isHouse l G _ _ _) lm_X12_332 (by decide) (cl_12 rfl) rfl rfl rfl hl.1 rfl (Nat.le_of_ble_eq_true rfl) dX12_gift_3 ⟨Nat.le_of_ble_eq_true rfl, Nat.le_of_ble_eq_true rfl⟩ ⟨Nat.le_refl 0, Nat.le_refl 0⟩) (fun H locs I => ?_)
  refine lv_if_ne (tgt := 13) X.1 X.2.1 dX12_gift_6 (by decide) (fun c_1 => ?_) (fun c_1 => ?_)
  · skip
    have hE := ite_t hE (b2i_y c_1)
    have ho := ite_tP ho (b2i_y c_1)
    refine lv_iload_n X.1 X.2.1 dX12_gift_13 rfl (lv_at hl 2 rfl) ?_
    refine lv_iconst (v := 1) X.1 X.2.1 dX12_gift_14 (by decide) ?_
    refine lv_bipush (v := 30) X.1 X.2.1 dX12_gift_15 (by decide) ?_
    refine r_ei I (r_runS X I pk_X12_in (c12_in l G _ _ _ _ _) lm_X12_220 rfl hl.1 rfl (Nat.le_of_ble_eq_true rfl) dX12_gift_17 ⟨Nat.le_of_ble_eq_true rfl, Nat.le_of_ble_eq_true rfl⟩ ⟨Nat.le_refl 0, Nat.le_refl 0⟩) (fun H locs I => ?_)
    refine lv_if_eq (tgt := 35) X.1 X.2.1 dX12_gift_20 (by decide) (fun c_2 => ?_) (fun c_2 => ?_)
    · skip
      have hE := ite_f hE (b2i_n c_2)
      have ho := ite_fP ho (b2i_n c_2)
      refine lv_iconst (v := 1) X.1 X.2.1 dX12_gift_35 (by decide) ?_
      refine lv_goto (tgt := 55) X.1 X.2.1 dX12_gift_36 (by decide) ?_
      have ho1 := ho.1
      have ho := ho.2
      refine r_ei I (r_runV X I pk_X12_isRefused (c12_isRefused l G _ _ _ ho1) lm_X12_347 (by decide) (cl_12 rfl) rfl rfl rfl hl.1 rfl (Nat.le_of_ble_eq_true rfl) dX12_gift_55 ⟨Nat.le_of_ble_eq_true rfl, Nat.le_of_ble_eq_true rfl⟩ ⟨Nat.le_refl 0, Nat.le_refl 0⟩) (fun H locs I => ?_)
      refine lv_if_eq (tgt := 63) X.1 X.2.1 dX12_gift_58 (by decide) (fun c_3 => ?_) (fun c_3 => ?_)
      · skip
        have hE := ite_f hE (b2i_n c_3)
        have ho := ite_fP ho (b2i_n c_3)
        refine lv_aload_n X.1 X.2.1 dX12_gift_63 rfl (lv_at hl 0 rfl) ?_
        have ho2 := ho.1
        have ho := ho.2
        refine r_ev I (r_runV X I pk_X12_keep (c12_keep l G _ _ ho2) lm_X12_350 (by decide) (cl_12 rfl) rfl rfl rfl hl.1 rfl (Nat.le_of_ble_eq_true rfl) dX12_gift_64 ⟨Nat.le_of_ble_eq_true rfl, Nat.le_of_ble_eq_true rfl⟩ ⟨Nat.le_refl 0, Nat.le_refl 0⟩) (fun H locs I => ?_)
        refine lv_aload_n X.1 X.2.1 dX12_gift_67 rfl (lv_at hl 0 rfl) ?_
        refine g12_27 X I (k := 123) (by decide) rfl lf_X12_58 dX12_gift_68 ?_
        refine lv_iconst (v := 0) X.1 X.2.1 dX12_gift_71 (by decide) ?_
        refine lv_iload_n X.1 X.2.1 dX12_gift_72 rfl (lv_at hl 1 rfl) ?_
        refine lv_iadd X.1 X.2.1 dX12_gift_73 ?_
        refine lv_dup2_11 X.1 X.2.1 dX12_gift_74 rfl rfl ?_
        have ho3 := ho.1
        have ho := ho.2
        refine r_ald X I (k := 140) (n := 255) (by decide) rfl ho3 dX12_gift_75 ?_
        refine lv_iload_n X.1 X.2.1 dX12_gift_76 rfl (lv_at hl 2 rfl) ?_
        refine lv_isub X.1 X.2.1 dX12_gift_77 ?_
        have ho4 := ho.1
        have ho := ho.2
        refine r_ast X I (k := 140) (n := 255) (by decide) rfl ho4 dX12_gift_78 (fun H locs I => ?_)
        refine lv_aload_n X.1 X.2.1 dX12_gift_79 rfl (lv_at hl 0 rfl) ?_
        refine g12_27 X I (k := 123) (by decide) rfl lf_X12_58 dX12_gift_80 ?_
        refine lv_bipush (v := 7) X.1 X.2.1 dX12_gift_83 (by decide) ?_
        refine lv_dup2_11 X.1 X.2.1 dX12_gift_85 rfl rfl ?_
        refine r_ald X I (k := 140) (n := 255) (by decide) rfl (by unfold vp_in; decide) dX12_gift_86 ?_
        refine lv_iload_n X.1 X.2.1 dX12_gift_87 rfl (lv_at hl 2 rfl) ?_
        refine lv_isub X.1 X.2.1 dX12_gift_88 ?_
        refine r_ast X I (k := 140) (n := 255) (by decide) rfl (by unfold vp_in; decide) dX12_gift_89 (fun H locs I => ?_)
        refine lv_aload_n X.1 X.2.1 dX12_gift_90 rfl (lv_at hl 0 rfl) ?_
        refine g12_27 X I (k := 123) (by decide) rfl lf_X12_58 dX12_gift_91 ?_
        refine lv_iconst (v := 0) X.1 X.2.1 dX12_gift_94 (by decide) ?_
        refine lv_iload_n X.1 X.2.1 dX12_gift_95 rfl (lv_at hl 1 rfl) ?_
        refine lv_iadd X.1 X.2.1 dX12_gift_96 ?_
        have ho5 := ho.1
        have ho := ho.2
        refine r_ald X I (k := 140) (n := 255) (by decide) rfl ho5 dX12_gift_97 ?_
        have h9 := hE
        exact r_iret X I (e_i (pr_fst h9) (pr_snd h9) rfl) dX12_gift_98
      · skip
        have hE := ite_t hE (b2i_y c_3)
        have ho := ite_tP ho (b2i_y c_3)
        refine lv_iconst (v := (-1)) X.1 X.2.1 dX12_gift_61 (by decide) ?_
        have h9 := hE
        exact r_iret X I (e_i (pr_fst h9) (pr_snd h9) rfl) dX12_gift_62
    · skip
      have hE := ite_t hE (b2i_y c_2)
      have ho := ite_tP ho (b2i_y c_2)
      refine lv_iload_n X.1 X.2.1 dX12_gift_23 rfl (lv_at hl 2 rfl) ?_
      refine lv_aload_n X.1 X.2.1 dX12_gift_24 rfl (lv_at hl 0 rfl) ?_
      refine g12_27 X I (k := 123) (by decide) rfl lf_X12_58 dX12_gift_25 ?_
      refine lv_iconst (v := 0) X.1 X.2.1 dX12_gift_28 (by decide) ?_
      refine lv_iload_n X.1 X.2.1 dX12_gift_29 rfl (lv_at hl 1 rfl) ?_
      refine lv_iadd X.1 X.2.1 dX12_gift_30 ?_
      have ho6 := ho.1
      have ho := ho.2
      refine r_ald X I (k := 140) (n := 255) (by decide) rfl ho6 dX12_gift_31 ?_
      refine lv_icmp_le (tgt := 39) X.1 X.2.1 dX12_gift_32 (by decide) (fun c_4 => ?_) (fun c_4 => ?_)
      · skip
        have hE := ite_t hE c_4
        have ho := ite_tP ho c_4
        refine lv_aload_n X.1 X.2.1 dX12_gift_39 rfl (lv_at hl 0 rfl) ?_
        refine g12_27 X I (k := 123) (by decide) rfl lf_X12_58 dX12_gift_40 ?_
        refine lv_bipush (v := 7) X.1 X.2.1 dX12_gift_43 (by decide) ?_
        refine r_ald X I (k := 140) (n := 255) (by decide) rfl (by unfold vp_in; decide) dX12_gift_45 ?_
        refine lv_iload_n X.1 X.2.1 dX12_gift_46 rfl (lv_at hl 2 rfl) ?_
        refine lv_icmp_ge (tgt := 54) X.1 X.2.1 dX12_gift_47 (by decide) (fun c_5 => ?_) (fun c_5 => ?_)
        · skip
          have hE := ite_t hE c_5
          have ho := ite_tP ho c_5
          refine lv_iconst (v := (-1)) X.1 X.2.1 dX12_gift_54 (by decide) ?_
          have ho7 := ho.1
          have ho := ho.2
          refine r_ei I (r_runV X I pk_X12_isRefused (c12_isRefused l G _ _ _ ho7) lm_X12_347 (by decide) (cl_12 rfl) rfl rfl rfl hl.1 rfl (Nat.le_of_ble_eq_true rfl) dX12_gift_55 ⟨Nat.le_of_ble_eq_true rfl, Nat.le_of_ble_eq_true rfl⟩ ⟨Nat.le_refl 0, Nat.le_refl 0⟩) (fun H locs I => ?_)
          refine lv_if_eq (tgt := 63) X.1 X.2.1 dX12_gift_58 (by decide) (fun c_6 => ?_) (fun c_6 => ?_)
          · skip
            have hE := ite_f hE (b2i_n c_6)
            have ho := ite_fP ho (b2i_n c_6)
            refine lv_aload_n X.1 X.2.1 dX12_gift_63 rfl (lv_at hl 0 rfl) ?_
            have ho8 := ho.1
            have ho := ho.2
            refine r_ev I (r_runV X I pk_X12_keep (c12_keep l G _ _ ho8) lm_X12_350 (by decide) (cl_12 rfl) rfl rfl rfl hl.1 rfl (Nat.le_of_ble_eq_true rfl) dX12_gift_64 ⟨Nat.le_of_ble_eq_true rfl, Nat.le_of_ble_eq_true rfl⟩ ⟨Nat.le_refl 0, Nat.le_refl 0⟩) (fun H locs I => ?_)
            refine lv_aload_n X.1 X.2.1 dX12_gift_67 rfl (lv_at hl 0 rfl) ?_
            refine g12_27 X I (k := 123) (by decide) rfl lf_X12_58 dX12_gift_68 ?_
            refine lv_iconst (v := 0) X.1 X.2.1 dX12_gift_71 (by decide) ?_
            refine lv_iload_n X.1 X.2.1 dX12_gift_72 rfl (lv_at hl 1 rfl) ?_
            refine lv_iadd X.1 X.2.1 dX12_gift_73 ?_
            refine lv_dup2_11 X.1 X.2.1 dX12_gift_74 rfl rfl ?_
            have ho9 := ho.1
            have ho := ho.2
            refine r_ald X I (k := 140) (n := 255) (by decide) rfl ho9 dX12_gift_75 ?_
            refine lv_iload_n X.1 X.2.1 dX12_gift_76 rfl (lv_at hl 2 rfl) ?_
            refine lv_isub X.1 X.2.1 dX12_gift_77 ?_
            have ho10 := ho.1
            have ho := ho.2
            refine r_ast X I (k := 140) (n := 255) (by decide) rfl ho10 dX12_gift_78 (fun H locs I => ?_)
            refine lv_aload_n X.1 X.2.1 dX12_gift_79 rfl (lv_at hl 0 rfl) ?_
            refine g12_27 X I (k := 123) (by decide) rfl lf_X12_58 dX12_gift_80 ?_
            refine lv_bipush (v := 7) X.1 X.2.1 dX12_gift_83 (by decide) ?_
            refine lv_dup2_11 X.1 X.2.1 dX12_gift_85 rfl rfl ?_
            refine r_ald X I (k := 140) (n := 255) (by decide) rfl (by unfold vp_in; decide) dX12_gift_86 ?_
            refine lv_iload_n X.1 X.2.1 dX12_gift_87 rfl (lv_at hl 2 rfl) ?_
            refine lv_isub X.1 X.2.1 dX12_gift_88 ?_
            refine r_ast X I (k := 140) (n := 255) (by decide) rfl (by unfold vp_in; decide) dX12_gift_89 (fun H locs I => ?_)
            refine lv_aload_n X.1 X.2.1 dX12_gift_90 rfl (lv_at hl 0 rfl) ?_
            refine g12_27 X I (k := 123) (by decide) rfl lf_X12_58 dX12_gift_91 ?_
            refine lv_iconst (v := 0) X.1 X.2.1 dX12_gift_94 (by decide) ?_
            refine lv_iload_n X.1 X.2.1 dX12_gift_95 rfl (lv_at hl 1 rfl) ?_
            refine lv_iadd X.1 X.2.1 dX12_gift_96 ?_
            have ho11 := ho.1
            have ho := ho.2
            refine r_ald X I (k := 140) (n := 255) (by decide) rfl ho11 dX12_gift_97 ?_
            have h9 := hE
            exact r_iret X I (e_i (pr_fst h9) (pr_snd h9) rfl) dX12_gift_98
          · skip
            have hE := ite_t hE (b2i_y c_6)
            have ho := ite_tP ho (b2i_y c_6)
            refine lv_iconst (v := (-1)) X.1 X.2.1 dX12_gift_61 (by decide) ?_
            have h9 := hE
            exact r_iret X I (e_i (pr_fst h9) (pr_snd h9) rfl) dX12_gift_62
        · skip
          have hE := ite_f hE c_5
          have ho := ite_fP ho c_5
          refine lv_iconst (v := 3) X.1 X.2.1 dX12_gift_50 (by decide) ?_
          refine lv_goto (tgt := 55) X.1 X.2.1 dX12_gift_51 (by decide) ?_
          have ho12 := ho.1
          have ho := ho.2
          refine r_ei I (r_runV X I pk_X12_isRefused (c12_isRefused l G _ _ _ ho12) lm_X12_347 (by decide) (cl_12 rfl) rfl rfl rfl hl.1 rfl (Nat.le_of_ble_eq_true rfl) dX12_gift_55 ⟨Nat.le_of_ble_eq_true rfl, Nat.le_of_ble_eq_true rfl⟩ ⟨Nat.le_refl 0, Nat.le_refl 0⟩) (fun H locs I => ?_)
          refine lv_if_eq (tgt := 63) X.1 X.2.1 dX12_gift_58 (by decide) (fun c_7 => ?_) (fun c_7 => ?_)
          · skip
            have hE := ite_f hE (b2i_n c_7)
            have ho := ite_fP ho (b2i_n c_7)
            refine lv_aload_n X.1 X.2.1 dX12_gift_63 rfl (lv_at hl 0 rfl) ?_
            have ho13 := ho.1
            have ho := ho.2
            refine r_ev I (r_runV X I pk_X12_keep (c12_keep l G _ _ ho13) lm_X12_350 (by decide) (cl_12 rfl) rfl rfl rfl hl.1 rfl (Nat.le_of_ble_eq_true rfl) dX12_gift_64 ⟨Nat.le_of_ble_eq_true rfl, Nat.le_of_ble_eq_true rfl⟩ ⟨Nat.le_refl 0, Nat.le_refl 0⟩) (fun H locs I => ?_)
            refine lv_aload_n X.1 X.2.1 dX12_gift_67 rfl (lv_at hl 0 rfl) ?_
            refine g12_27 X I (k := 123) (by decide) rfl lf_X12_58 dX12_gift_68 ?_
            refine lv_iconst (v := 0) X.1 X.2.1 dX12_gift_71 (by decide) ?_
            refine lv_iload_n X.1 X.2.1 dX12_gift_72 rfl (lv_at hl 1 rfl) ?_
            refine lv_iadd X.1 X.2.1 dX12_gift_73 ?_
            refine lv_dup2_11 X.1 X.2.1 dX12_gift_74 rfl rfl ?_
            have ho14 := ho.1
            have ho := ho.2
            refine r_ald X I (k := 140) (n := 255) (by decide) rfl ho14 dX12_gift_75 ?_
            refine lv_iload_n X.1 X.2.1 dX12_gift_76 rfl (lv_at hl 2 rfl) ?_
            refine lv_isub X.1 X.2.1 dX12_gift_77 ?_
            have ho15 := ho.1
            have ho := ho.2
            refine r_ast X I (k := 140) (n := 255) (by decide) rfl ho15 dX12_gift_78 (fun H locs I => ?_)
            refine lv_aload_n X.1 X.2.1 dX12_gift_79 rfl (lv_at hl 0 rfl) ?_
            refine g12_27 X I (k := 123) (by decide) rfl lf_X12_58 dX12_gift_80 ?_
            refine lv_bipush (v := 7) X.1 X.2.1 dX12_gift_83 (by decide) ?_
            refine lv_dup2_11 X.1 X.2.1 dX12_gift_85 rfl rfl ?_
            refine r_ald X I (k := 140) (n := 255) (by decide) rfl (by unfold vp_in; decide) dX12_gift_86 ?_
            refine lv_iload_n X.1 X.2.1 dX12_gift_87 rfl (lv_at hl 2 rfl) ?_
            refine lv_isub X.1 X.2.1 dX12_gift_88 ?_
            refine r_ast X I (k := 140) (n := 255) (by decide) rfl (by unfold vp_in; decide) dX12_gift_89 (fun H locs I => ?_)
            refine lv_aload_n X.1 X.2.1 dX12_gift_90 rfl (lv_at hl 0 rfl) ?_
            refine g12_27 X I (k := 123) (by decide) rfl lf_X12_58 dX12_gift_91 ?_
            refine lv_iconst (v := 0) X.1 X.2.1 dX12_gift_94 (by decide) ?_
            refine lv_iload_n X.1 X.2.1 dX12_gift_95 rfl (lv_at hl 1 rfl) ?_
            refine lv_iadd X.1 X.2.1 dX12_gift_96 ?_
            have ho16 := ho.1
            have ho := ho.2
            refine r_ald X I (k := 140) (n := 255) (by decide) rfl ho16 dX12_gift_97 ?_
            have h9 := hE
            exact r_iret X I (e_i (pr_fst h9) (pr_snd h9) rfl) dX12_gift_98
          · skip
            have hE := ite_t hE (b2i_y c_7)
            have ho := ite_tP ho (b2i_y c_7)
            refine lv_iconst (v := (-1)) X.1 X.2.1 dX12_gift_61 (by decide) ?_
            have h9 := hE
            exact r_iret X I (e_i (pr_fst h9) (pr_snd h9) rfl) dX12_gift_62
      · skip
        have hE := ite_f hE c_4
        have ho := ite_fP ho c_4
        refine lv_iconst (v := 1) X.1 X.2.1 dX12_gift_35 (by decide) ?_
        refine lv_goto (tgt := 55) X.1 X.2.1 dX12_gift_36 (by decide) ?_
        have ho17 := ho.1
        have ho := ho.2
        refine r_ei I (r_runV X I pk_X12_isRefused (c12_isRefused l G _ _ _ ho17) lm_X12_347 (by decide) (cl_12 rfl) rfl rfl rfl hl.1 rfl (Nat.le_of_ble_eq_true rfl) dX12_gift_55 ⟨Nat.le_of_ble_eq_true rfl, Nat.le_of_ble_eq_true rfl⟩ ⟨Nat.le_refl 0, Nat.le_refl 0⟩) (fun H locs I => ?_)
        refine lv_if_eq (tgt := 63) X.1 X.2.1 dX12_gift_58 (by decide) (fun c_8 => ?_) (fun c_8 => ?_)
        · skip
          have hE := ite_f hE (b2i_n c_8)
          have ho := ite_fP ho (b2i_n c_8)
          refine lv_aload_n X.1 X.2.1 dX12_gift_63 rfl (lv_at hl 0 rfl) ?_
          have ho18 := ho.1
          have ho := ho.2
          refine r_ev I (r_runV X I pk_X12_keep (c12_keep l G _ _ ho18) lm_X12_350 (by decide) (cl_12 rfl) rfl rfl rfl hl.1 rfl (Nat.le_of_ble_eq_true rfl) dX12_gift_64 ⟨Nat.le_of_ble_eq_true rfl, Nat.le_of_ble_eq_true rfl⟩ ⟨Nat.le_refl 0, Nat.le_refl 0⟩) (fun H locs I => ?_)
          refine lv_aload_n X.1 X.2.1 dX12_gift_67 rfl (lv_at hl 0 rfl) ?_
          refine g12_27 X I (k := 123) (by decide) rfl lf_X12_58 dX12_gift_68 ?_
          refine lv_iconst (v := 0) X.1 X.2.1 dX12_gift_71 (by decide) ?_
          refine lv_iload_n X.1 X.2.1 dX12_gift_72 rfl (lv_at hl 1 rfl) ?_
          refine lv_iadd X.1 X.2.1 dX12_gift_73 ?_
          refine lv_dup2_11 X.1 X.2.1 dX12_gift_74 rfl rfl ?_
          have ho19 := ho.1
          have ho := ho.2
          refine r_ald X I (k := 140) (n := 255) (by decide) rfl ho19 dX12_gift_75 ?_
          refine lv_iload_n X.1 X.2.1 dX12_gift_76 rfl (lv_at hl 2 rfl) ?_
          refine lv_isub X.1 X.2.1 dX12_gift_77 ?_
          have ho20 := ho.1
          have ho := ho.2
          refine r_ast X I (k := 140) (n := 255) (by decide) rfl ho20 dX12_gift_78 (fun H locs I => ?_)
          refine lv_aload_n X.1 X.2.1 dX12_gift_79 rfl (lv_at hl 0 rfl) ?_
          refine g12_27 X I (k := 123) (by decide) rfl lf_X12_58 dX12_gift_80 ?_
          refine lv_bipush (v := 7) X.1 X.2.1 dX12_gift_83 (by decide) ?_
          refine lv_dup2_11 X.1 X.2.1 dX12_gift_85 rfl rfl ?_
          refine r_ald X I (k := 140) (n := 255) (by decide) rfl (by unfold vp_in; decide) dX12_gift_86 ?_
          refine lv_iload_n X.1 X.2.1 dX12_gift_87 rfl (lv_at hl 2 rfl) ?_
          refine lv_isub X.1 X.2.1 dX12_gift_88 ?_
          refine r_ast X I (k := 140) (n := 255) (by decide) rfl (by unfold vp_in; decide) dX12_gift_89 (fun H locs I => ?_)
          refine lv_aload_n X.1 X.2.1 dX12_gift_90 rfl (lv_at hl 0 rfl) ?_
          refine g12_27 X I (k := 123) (by decide) rfl lf_X12_58 dX12_gift_91 ?_
          refine lv_iconst (v := 0) X.1 X.2.1 dX12_gift_94 (by decide) ?_
          refine lv_iload_n X.1 X.2.1 dX12_gift_95 rfl (lv_at hl 1 rfl) ?_
          refine lv_iadd X.1 X.2.1 dX12_gift_96 ?_
          have ho21 := ho.1
          have ho := ho.2
          refine r_ald X I (k := 140) (n := 255) (by decide) rfl ho21 dX12_gift_97 ?_
          have h9 := hE
          exact r_iret X I (e_i (pr_fst h9) (pr_snd h9) rfl) dX12_gift_98
        · skip
          have hE := ite_t hE (b2i_y c_8)
          have ho := ite_tP ho (b2i_y c_8)
          refine lv_iconst (v := (-1)) X.1 X.2.1 dX12_gift_61 (by decide) ?_
          have h9 := hE
          exact r_iret X I (e_i (pr_fst h9) (pr_snd h9) rfl) dX12_gift_62
  · skip
    have hE := ite_f hE (b2i_n c_1)
    have ho := ite_fP ho (b2i_n c_1)
    refine lv_iconst (v := 0) X.1 X.2.1 dX12_gift_9 (by decide) ?_
    refine lv_goto (tgt := 55) X.1 X.2.1 dX12_gift_10 (by decide) ?_
    have ho22 := ho.1
    have ho := ho.2
    refine r_ei I (r_runV X I pk_X12_isRefused (c12_isRefused l G _ _ _ ho22) lm_X12_347 (by decide) (cl_12 rfl) rfl rfl rfl hl.1 rfl (Nat.le_of_ble_eq_true rfl) dX12_gift_55 ⟨Nat.le_of_ble_eq_true rfl, Nat.le_of_ble_eq_true rfl⟩ ⟨Nat.le_refl 0, Nat.le_refl 0⟩) (fun H locs I => ?_)
    refine lv_if_eq (tgt := 63) X.1 X.2.1 dX12_gift_58 (by decide) (fun c_9 => ?_) (fun c_9 => ?_)
    · skip
      have hE := ite_f hE (b2i_n c_9)
      have ho := ite_fP ho (b2i_n c_9)
      refine lv_aload_n X.1 X.2.1 dX12_gift_63 rfl (lv_at hl 0 rfl) ?_
      have ho23 := ho.1
      have ho := ho.2
      refine r_ev I (r_runV X I pk_X12_keep (c12_keep l G _ _ ho23) lm_X12_350 (by decide) (cl_12 rfl) rfl rfl rfl hl.1 rfl (Nat.le_of_ble_eq_true rfl) dX12_gift_64 ⟨Nat.le_of_ble_eq_true rfl, Nat.le_of_ble_eq_true rfl⟩ ⟨Nat.le_refl 0, Nat.le_refl 0⟩) (fun H locs I => ?_)
      refine lv_aload_n X.1 X.2.1 dX12_gift_67 rfl (lv_at hl 0 rfl) ?_
      refine g12_27 X I (k := 123) (by decide) rfl lf_X12_58 dX12_gift_68 ?_
      refine lv_iconst (v := 0) X.1 X.2.1 dX12_gift_71 (by decide) ?_
      refine lv_iload_n X.1 X.2.1 dX12_gift_72 rfl (lv_at hl 1 rfl) ?_
      refine lv_iadd X.1 X.2.1 dX12_gift_73 ?_
      refine lv_dup2_11 X.1 X.2.1 dX12_gift_74 rfl rfl ?_
      have ho24 := ho.1
      have ho := ho.2
      refine r_ald X I (k := 140) (n := 255) (by decide) rfl ho24 dX12_gift_75 ?_
      refine lv_iload_n X.1 X.2.1 dX12_gift_76 rfl (lv_at hl 2 rfl) ?_
      refine lv_isub X.1 X.2.1 dX12_gift_77 ?_
      have ho25 := ho.1
      have ho := ho.2
      refine r_ast X I (k := 140) (n := 255) (by decide) rfl ho25 dX12_gift_78 (fun H locs I => ?_)
      refine lv_aload_n X.1 X.2.1 dX12_gift_79 rfl (lv_at hl 0 rfl) ?_
      refine g12_27 X I (k := 123) (by decide) rfl lf_X12_58 dX12_gift_80 ?_
      refine lv_bipush (v := 7) X.1 X.2.1 dX12_gift_83 (by decide) ?_
      refine lv_dup2_11 X.1 X.2.1 dX12_gift_85 rfl rfl ?_
      refine r_ald X I (k := 140) (n := 255) (by decide) rfl (by unfold vp_in; decide) dX12_gift_86 ?_
      refine lv_iload_n X.1 X.2.1 dX12_gift_87 rfl (lv_at hl 2 rfl) ?_
      refine lv_isub X.1 X.2.1 dX12_gift_88 ?_
      refine r_ast X I (k := 140) (n := 255) (by decide) rfl (by unfold vp_in; decide) dX12_gift_89 (fun H locs I => ?_)
      refine lv_aload_n X.1 X.2.1 dX12_gift_90 rfl (lv_at hl 0 rfl) ?_
      refine g12_27 X I (k := 123) (by decide) rfl lf_X12_58 dX12_gift_91 ?_
      refine lv_iconst (v := 0) X.1 X.2.1 dX12_gift_94 (by decide) ?_
      refine lv_iload_n X.1 X.2.1 dX12_gift_95 rfl (lv_at hl 1 rfl) ?_
      refine lv_iadd X.1 X.2.1 dX12_gift_96 ?_
      have ho26 := ho.1
      have ho := ho.2
      refine r_ald X I (k := 140) (n := 255) (by decide) rfl ho26 dX12_gift_97 ?_
      have h9 := hE
      exact r_iret X I (e_i (pr_fst h9) (pr_snd h9) rfl) dX12_gift_98
    · skip
      have hE := ite_t hE (b2i_y c_9)
      have ho := ite_tP ho (b2i_y c_9)
      refine lv_iconst (v := (-1)) X.1 X.2.1 dX12_gift_61 (by decide) ?_
      have h9 := hE
      exact r_iret X I (e_i (pr_fst h9) (pr_snd h9) rfl) dX12_gift_62
