noncomputable def f12_carry (σ : SI) (x1 : Int32) : Int32 × SI := let r0 := (f12_whyNot σ x1); let r1 := (f12_isRefused r0.2 r0.1); if r1.1 = true then ((-1 : Int32), r1.2) else (let s2 := (f12_keep r1.2); let r3 := (f12_carryLogged s2 x1); r3)
noncomputable def o12_carry (σ : SI) (x1 : Int32) : Prop := (o12_whyNot σ x1) ∧ (let r0 := (f12_whyNot σ x1); (o12_isRefused r0.2 r0.1) ∧ (let r1 := (f12_isRefused r0.2 r0.1); if r1.1 = true then True else ((o12_keep r1.2) ∧ (let s2 := (f12_keep r1.2); (o12_carryLogged s2 x1) ∧ (let r3 := (f12_carryLogged s2 x1); True)))))
theorem w_f12_carry (σ : SI) (x1 : Int32) (a : Nat) (h0 : a ≠ 123) (h1 : a ≠ 132) (h2 : a ≠ 133) (h3 : a ≠ 140) (h4 : a ≠ 141) (h5 : a ≠ 142) : (f12_carry σ x1).2 a = σ a := by
  refine fp_to2 ?_
  unfold f12_carry
  exact (fr_ite2 (fr_mk21 ((w_f12_isRefused _ _ a h4).trans (w_f12_whyNot _ _ a h1 h2))) ((w_f12_carryLogged _ _ a h1 h2 h3).trans ((w_f12_keep _ a h0 h5).trans ((w_f12_isRefused _ _ a h4).trans (w_f12_whyNot _ _ a h1 h2)))))
set_option maxHeartbeats 4000000 in
set_option maxRecDepth 100000 in
theorem c12_carry (l : Launch) (G : GT) (σ : SI) (τ : SL) (x1 : Int32) (ho : o12_carry σ x1) : Mc l yX12_carry cX12_carry 2 (some .int) 11 G [.ref (G.2.1 123), .int x1] σ τ (Qi G (Ei (f12_carry σ x1).1 (f12_carry σ x1).2 τ)) := by
  refine m_start (by decide +kernel) (Nat.le_of_ble_eq_true rfl) rfl (fun p e s m args below meth c ls X I hl => ?_)
  have hl : lv_has ls 2 [(0, .ref (G.2.1 123)), (1, .int x1)] := hl
  obtain ⟨E, hE⟩ : ∃ E, E = (f12_carry σ x1) := ⟨_, rfl⟩
  rw [← hE]
  unfold o12_carry at ho
  refine lv_aload_n X.1 X.2.1 dX12_carry_0 rfl (lv_at hl 0 rfl) ?_
  refine lv_aload_n X.1 X.2.1 dX12_carry_1 rfl (lv_at hl 0 rfl) ?_
  refine lv_iload_n X.1 X.2.1 dX12_carry_2 rfl (lv_at hl 1 rfl) ?_
  have ho1 := ho.1
  have ho := ho.2
  refine r_ei I (r_runV X I pk_X12_whyNot (c12_whyNot l G _ _ _ ho1) lm_X12_344 (by decide) (cl_12 rfl) rfl rfl rfl hl.1 rfl (Nat.le_of_ble_eq_true rfl) dX12_carry_3 ⟨Nat.le_of_ble_eq_true rfl, Nat.le_of_ble_eq_true rfl⟩ ⟨Nat.le_refl 0, Nat.le_refl 0⟩) (fun H locs I => ?_)
  have ho2 := ho.1
  have ho := ho.2
  refine r_ei I (r_runV X I pk_X12_isRefused (c12_isRefused l G _ _ _ ho2) lm_X12_347 (by decide) (cl_12 rfl) rfl rfl rfl hl.1 rfl (Nat.le_of_ble_eq_true rfl) dX12_carry_6 ⟨Nat.le_of_ble_eq_true rfl, Nat.le_of_ble_eq_true rfl⟩ ⟨Nat.le_refl 0, Nat.le_refl 0⟩) (fun H locs I => ?_)
  refine lv_if_eq (tgt := 14) X.1 X.2.1 dX12_carry_9 (by decide) (fun c_1 => ?_) (fun c_1 => ?_)
  · skip
    have hE := ite_f hE (b2i_n c_1)
    have ho := ite_fP ho (b2i_n c_1)
    refine lv_aload_n X.1 X.2.1 dX12_carry_14 rfl (lv_at hl 0 rfl) ?_
    have ho3 := ho.1
    have ho := ho.2
    refine r_ev I (r_runV X I pk_X12_keep (c12_keep l G _ _ ho3) lm_X12_350 (by decide) (cl_12 rfl) rfl rfl rfl hl.1 rfl (Nat.le_of_ble_eq_true rfl) dX12_carry_15 ⟨Nat.le_of_ble_eq_true rfl, Nat.le_of_ble_eq_true rfl⟩ ⟨Nat.le_refl 0, Nat.le_refl 0⟩) (fun H locs I => ?_)
    refine lv_aload_n X.1 X.2.1 dX12_carry_18 rfl (lv_at hl 0 rfl) ?_
    refine lv_iload_n X.1 X.2.1 dX12_carry_19 rfl (lv_at hl 1 rfl) ?_
    have ho4 := ho.1
    have ho := ho.2
    refine r_ei I (r_runV X I pk_X12_carryLogged (c12_carryLogged l G _ _ _ ho4) lm_X12_353 (by decide) (cl_12 rfl) rfl rfl rfl hl.1 rfl (Nat.le_of_ble_eq_true rfl) dX12_carry_20 ⟨Nat.le_of_ble_eq_true rfl, Nat.le_of_ble_eq_true rfl⟩ ⟨Nat.le_refl 0, Nat.le_refl 0⟩) (fun H locs I => ?_)
    have h9 := hE
    exact r_iret X I (e_i (congrArg Prod.fst h9).symm (congrArg Prod.snd h9).symm rfl) dX12_carry_23
  · skip
    have hE := ite_t hE (b2i_y c_1)
    have ho := ite_tP ho (b2i_y c_1)
    refine lv_iconst (v := (-1)) X.1 X.2.1 dX12_carry_12 (by decide) ?_
    have h9 := hE
    exact r_iret X I (e_i (pr_fst h9) (pr_snd h9) rfl) dX12_carry_13
noncomputable def f12_rest (σ : SI) : Int32 × SI := if (σ 123 25) = (0 : Int32) then (let r12 := (f12_isRefused σ (0 : Int32)); if r12.1 = true then ((-1 : Int32), r12.2) else (let s13 := (f12_keep r12.2); let s14 := sp s13 140 8 ((s13 140 8) + (5 : Int32)); let s15 := sp s14 140 9 (if (0 : Int32) < ((s13 140 9) - (10 : Int32)) then ((s13 140 9) - (10 : Int32)) else (0 : Int32)); ((if (0 : Int32) < ((s13 140 9) - (10 : Int32)) then ((s13 140 9) - (10 : Int32)) else (0 : Int32)), s15))) else (if (σ 140 9) = (0 : Int32) then (let r8 := (f12_isRefused σ (2 : Int32)); if r8.1 = true then ((-1 : Int32), r8.2) else (let s9 := (f12_keep r8.2); let s10 := sp s9 140 8 ((s9 140 8) + (5 : Int32)); let s11 := sp s10 140 9 (if (0 : Int32) < ((s9 140 9) - (10 : Int32)) then ((s9 140 9) - (10 : Int32)) else (0 : Int32)); ((if (0 : Int32) < ((s9 140 9) - (10 : Int32)) then ((s9 140 9) - (10 : Int32)) else (0 : Int32)), s11))) else (if ((σ 140 8) + (5 : Int32)) ≤ (σ 137 0) then (let r0 := (f12_isRefused σ (-1 : Int32)); if r0.1 = true then ((-1 : Int32), r0.2) else (let s1 := (f12_keep r0.2); let s2 := sp s1 140 8 ((s1 140 8) + (5 : Int32)); let s3 := sp s2 140 9 (if (0 : Int32) < ((s1 140 9) - (10 : Int32)) then ((s1 140 9) - (10 : Int32)) else (0 : Int32)); ((if (0 : Int32) < ((s1 140 9) - (10 : Int32)) then ((s1 140 9) - (10 : Int32)) else (0 : Int32)), s3))) else (let r4 := (f12_isRefused σ (4 : Int32)); if r4.1 = true then ((-1 : Int32), r4.2) else (let s5 := (f12_keep r4.2); let s6 := sp s5 140 8 ((s5 140 8) + (5 : Int32)); let s7 := sp s6 140 9 (if (0 : Int32) < ((s5 140 9) - (10 : Int32)) then ((s5 140 9) - (10 : Int32)) else (0 : Int32)); ((if (0 : Int32) < ((s5 140 9) - (10 : Int32)) then ((s5 140 9) - (10 : Int32)) else (0 : Int32)), s7)))))
noncomputable def o12_rest (σ : SI) : Prop := if (σ 123 25) = (0 : Int32) then ((o12_isRefused σ (0 : Int32)) ∧ (let r12 := (f12_isRefused σ (0 : Int32)); if r12.1 = true then True else ((o12_keep r12.2) ∧ (let s13 := (f12_keep r12.2); let s14 := sp s13 140 8 ((s13 140 8) + (5 : Int32)); let s15 := sp s14 140 9 (if (0 : Int32) < ((s13 140 9) - (10 : Int32)) then ((s13 140 9) - (10 : Int32)) else (0 : Int32)); True)))) else (if (σ 140 9) = (0 : Int32) then ((o12_isRefused σ (2 : Int32)) ∧ (let r8 := (f12_isRefused σ (2 : Int32)); if r8.1 = true then True else ((o12_keep r8.2) ∧ (let s9 := (f12_keep r8.2); let s10 := sp s9 140 8 ((s9 140 8) + (5 : Int32)); let s11 := sp s10 140 9 (if (0 : Int32) < ((s9 140 9) - (10 : Int32)) then ((s9 140 9) - (10 : Int32)) else (0 : Int32)); True)))) else (if ((σ 140 8) + (5 : Int32)) ≤ (σ 137 0) then ((o12_isRefused σ (-1 : Int32)) ∧ (let r0 := (f12_isRefused σ (-1 : Int32)); if r0.1 = true then True else ((o12_keep r0.2) ∧ (let s1 := (f12_keep r0.2); let s2 := sp s1 140 8 ((s1 140 8) + (5 : Int32)); let s3 := sp s2 140 9 (if (0 : Int32) < ((s1 140 9) - (10 : Int32)) then ((s1 140 9) - (10 : Int32)) else (0 : Int32)); True)))) else ((o12_isRefused σ (4 : Int32)) ∧ (let r4 := (f12_isRefused σ (4 : Int32)); if r4.1 = true then True else ((o12_keep r4.2) ∧ (let s5 := (f12_keep r4.2); let s6 := sp s5 140 8 ((s5 140 8) + (5 : Int32)); let s7 := sp s6 140 9 (if (0 : Int32) < ((s5 140 9) - (10 : Int32)) then ((s5 140 9) - (10 : Int32)) else (0 : Int32)); True))))))
theorem w_f12_rest (σ : SI) (a : Nat) (h0 : a ≠ 123) (h1 : a ≠ 140) (h2 : a ≠ 141) (h3 : a ≠ 142) : (f12_rest σ).2 a = σ a := by
  refine fp_to2 ?_
  unfold f12_rest
  exact (fr_ite2 (fr_ite2 (fr_mk21 (w_f12_isRefused _ _ a h2)) (fr_mk21 ((sp_n h1).trans ((sp_n h1).trans ((w_f12_keep _ a h0 h3).trans (w_f12_isRefused _ _ a h2)))))) (fr_ite2 (fr_ite2 (fr_mk21 (w_f12_isRefused _ _ a h2)) (fr_mk21 ((sp_n h1).trans ((sp_n h1).trans ((w_f12_keep _ a h0 h3).trans (w_f12_isRefused _ _ a h2)))))) (fr_ite2 (fr_ite2 (fr_mk21 (w_f12_isRefused _ _ a h2)) (fr_mk21 ((sp_n h1).trans ((sp_n h1).trans ((w_f12_keep _ a h0 h3).trans (w_f12_isRefused _ _ a h2)))))) (fr_ite2 (fr_mk21 (w_f12_isRefused _ _ a h2)) (fr_mk21 ((sp_n h1).trans ((sp_n h1).trans ((w_f12_keep _ a h0 h3).trans (w_f12_isRefused _ _ a h2)))))))))
set_option maxHeartbeats 4000000 in
set_option maxRecDepth 100000 in
theorem c12_rest (l : Launch) (G : GT) (σ : SI) (τ : SL) (ho : o12_rest σ) : Mc l yX12_rest cX12_rest 1 (some .int) 1 G [.ref (G.2.1 123)] σ τ (Qi G (Ei (f12_rest σ).1 (f12_rest σ).2 τ)) := by
  refine m_start (by decide +kernel) (Nat.le_of_ble_eq_true rfl) rfl (fun p e s m args below meth c ls X I hl => ?_)
  have hl : lv_has ls 1 [(0, .ref (G.2.1 123))] := hl
  obtain ⟨E, hE⟩ : ∃ E, E = (f12_rest σ) := ⟨_, rfl⟩
  rw [← hE]
  unfold o12_rest at ho
  refine lv_aload_n X.1 X.2.1 dX12_rest_0 rfl (lv_at hl 0 rfl) ?_
  refine lv_aload_n X.1 X.2.1 dX12_rest_1 rfl (lv_at hl 0 rfl) ?_
  refine g12_25 X I (k := 123) (by decide) rfl lf_X12_264 dX12_rest_2 ?_
  refine lv_if_ne (tgt := 12) X.1 X.2.1 dX12_rest_5 (by decide) (fun c_1 => ?_) (fun c_1 => ?_)
  · skip
    have hE := ite_f hE c_1
    have ho := ite_fP ho c_1
    refine lv_aload_n X.1 X.2.1 dX12_rest_12 rfl (lv_at hl 0 rfl) ?_
    refine g12_27 X I (k := 123) (by decide) rfl lf_X12_58 dX12_rest_13 ?_
    refine lv_bipush (v := 9) X.1 X.2.1 dX12_rest_16 (by decide) ?_
    refine r_ald X I (k := 140) (n := 255) (by decide) rfl (by unfold vp_in; decide) dX12_rest_18 ?_
    refine lv_if_ne (tgt := 26) X.1 X.2.1 dX12_rest_19 (by decide) (fun c_2 => ?_) (fun c_2 => ?_)
    · skip
      have hE := ite_f hE c_2
      have ho := ite_fP ho c_2
      refine lv_aload_n X.1 X.2.1 dX12_rest_26 rfl (lv_at hl 0 rfl) ?_
      refine g12_27 X I (k := 123) (by decide) rfl lf_X12_58 dX12_rest_27 ?_
      refine lv_bipush (v := 8) X.1 X.2.1 dX12_rest_30 (by decide) ?_
      refine r_ald X I (k := 140) (n := 255) (by decide) rfl (by unfold vp_in; decide) dX12_rest_32 ?_
      refine lv_iconst (v := 5) X.1 X.2.1 dX12_rest_33 (by decide) ?_
      refine lv_iadd X.1 X.2.1 dX12_rest_34 ?_
      refine lv_aload_n X.1 X.2.1 dX12_rest_35 rfl (lv_at hl 0 rfl) ?_
      refine g12_22 X I (k := 123) (by decide) rfl lf_X12_49 dX12_rest_36 ?_
      refine lv_iconst (v := 0) X.1 X.2.1 dX12_rest_39 (by decide) ?_
      refine r_ald X I (k := 137) (n := 3) (by decide) rfl (by unfold vp_in; decide) dX12_rest_40 ?_
      refine lv_icmp_le (tgt := 48) X.1 X.2.1 dX12_rest_41 (by decide) (fun c_3 => ?_) (fun c_3 => ?_)
      · skip
        have hE := ite_t hE c_3
        have ho := ite_tP ho c_3
        refine lv_iconst (v := (-1)) X.1 X.2.1 dX12_rest_48 (by decide) ?_
        have ho1 := ho.1
        have ho := ho.2
        refine r_ei I (r_runV X I pk_X12_isRefused (c12_isRefused l G _ _ _ ho1) lm_X12_347 (by decide) (cl_12 rfl) rfl rfl rfl hl.1 rfl (Nat.le_of_ble_eq_true rfl) dX12_rest_49 ⟨Nat.le_of_ble_eq_true rfl, Nat.le_of_ble_eq_true rfl⟩ ⟨Nat.le_refl 0, Nat.le_refl 0⟩) (fun H locs I => ?_)
        refine lv_if_eq (tgt := 57) X.1 X.2.1 dX12_rest_52 (by decide) (fun c_4 => ?_) (fun c_4 => ?_)
        · skip
          have hE := ite_f hE (b2i_n c_4)
          have ho := ite_fP ho (b2i_n c_4)
          refine lv_aload_n X.1 X.2.1 dX12_rest_57 rfl (lv_at hl 0 rfl) ?_
          have ho2 := ho.1
          have ho := ho.2
          refine r_ev I (r_runV X I pk_X12_keep (c12_keep l G _ _ ho2) lm_X12_350 (by decide) (cl_12 rfl) rfl rfl rfl hl.1 rfl (Nat.le_of_ble_eq_true rfl) dX12_rest_58 ⟨Nat.le_of_ble_eq_true rfl, Nat.le_of_ble_eq_true rfl⟩ ⟨Nat.le_refl 0, Nat.le_refl 0⟩) (fun H locs I => ?_)
          refine lv_aload_n X.1 X.2.1 dX12_rest_61 rfl (lv_at hl 0 rfl) ?_
          refine g12_27 X I (k := 123) (by decide) rfl lf_X12_58 dX12_rest_62 ?_
          refine lv_bipush (v := 8) X.1 X.2.1 dX12_rest_65 (by decide) ?_
          refine lv_dup2_11 X.1 X.2.1 dX12_rest_67 rfl rfl ?_
          refine r_ald X I (k := 140) (n := 255) (by decide) rfl (by unfold vp_in; decide) dX12_rest_68 ?_
          refine lv_iconst (v := 5) X.1 X.2.1 dX12_rest_69 (by decide) ?_
          refine lv_iadd X.1 X.2.1 dX12_rest_70 ?_
          refine r_ast X I (k := 140) (n := 255) (by decide) rfl (by unfold vp_in; decide) dX12_rest_71 (fun H locs I => ?_)
          refine lv_aload_n X.1 X.2.1 dX12_rest_72 rfl (lv_at hl 0 rfl) ?_
          refine g12_27 X I (k := 123) (by decide) rfl lf_X12_58 dX12_rest_73 ?_
          refine lv_bipush (v := 9) X.1 X.2.1 dX12_rest_76 (by decide) ?_
          refine lv_iconst (v := 0) X.1 X.2.1 dX12_rest_78 (by decide) ?_
          refine lv_aload_n X.1 X.2.1 dX12_rest_79 rfl (lv_at hl 0 rfl) ?_
          refine g12_27 X I (k := 123) (by decide) rfl lf_X12_58 dX12_rest_80 ?_
          refine lv_bipush (v := 9) X.1 X.2.1 dX12_rest_83 (by decide) ?_
          refine r_ald X I (k := 140) (n := 255) (by decide) rfl (by unfold vp_in; decide) dX12_rest_85 ?_
          refine lv_bipush (v := 10) X.1 X.2.1 dX12_rest_86 (by decide) ?_
          refine lv_isub X.1 X.2.1 dX12_rest_88 ?_
          refine r_mmax X hl.1 lm_X12_303 ls_J9_max_7cf53 ln_J9 lc_J9_max_7cf53 (Nat.le_of_ble_eq_true rfl) (Nat.le_of_ble_eq_true rfl) (Nat.le_refl 0) (Nat.le_refl 0) dX12_rest_89 ?_
          refine r_ast X I (k := 140) (n := 255) (by decide) rfl (by unfold vp_in; decide) dX12_rest_92 (fun H locs I => ?_)
          refine lv_aload_n X.1 X.2.1 dX12_rest_93 rfl (lv_at hl 0 rfl) ?_
          refine g12_27 X I (k := 123) (by decide) rfl lf_X12_58 dX12_rest_94 ?_
          refine lv_bipush (v := 9) X.1 X.2.1 dX12_rest_97 (by decide) ?_
          refine r_ald X I (k := 140) (n := 255) (by decide) rfl (by unfold vp_in; decide) dX12_rest_99 ?_
          have h9 := hE
          exact r_iret X I (e_i (pr_fst h9) (pr_snd h9) rfl) dX12_rest_100
        · skip
          have hE := ite_t hE (b2i_y c_4)
          have ho := ite_tP ho (b2i_y c_4)
          refine lv_iconst (v := (-1)) X.1 X.2.1 dX12_rest_55 (by decide) ?_
          have h9 := hE
          exact r_iret X I (e_i (pr_fst h9) (pr_snd h9) rfl) dX12_rest_56
      · skip
        have hE := ite_f hE c_3
        have ho := ite_fP ho c_3
        refine lv_iconst (v := 4) X.1 X.2.1 dX12_rest_44 (by decide) ?_
        refine lv_goto (tgt := 49) X.1 X.2.1 dX12_rest_45 (by decide) ?_
        have ho3 := ho.1
        have ho := ho.2
        refine r_ei I (r_runV X I pk_X12_isRefused (c12_isRefused l G _ _ _ ho3) lm_X12_347 (by decide) (cl_12 rfl) rfl rfl rfl hl.1 rfl (Nat.le_of_ble_eq_true rfl) dX12_rest_49 ⟨Nat.le_of_ble_eq_true rfl, Nat.le_of_ble_eq_true rfl⟩ ⟨Nat.le_refl 0, Nat.le_refl 0⟩) (fun H locs I => ?_)
        refine lv_if_eq (tgt := 57) X.1 X.2.1 dX12_rest_52 (by decide) (fun c_5 => ?_) (fun c_5 => ?_)
        · skip
          have hE := ite_f hE (b2i_n c_5)
          have ho := ite_fP ho (b2i_n c_5)
          refine lv_aload_n X.1 X.2.1 dX12_rest_57 rfl (lv_at hl 0 rfl) ?_
          have ho4 := ho.1
          have ho := ho.2
          refine r_ev I (r_runV X I pk_X12_keep (c12_keep l G _ _ ho4) lm_X12_350 (by decide) (cl_12 rfl) rfl rfl rfl hl.1 rfl (Nat.le_of_ble_eq_true rfl) dX12_rest_58 ⟨Nat.le_of_ble_eq_true rfl, Nat.le_of_ble_eq_true rfl⟩ ⟨Nat.le_refl 0, Nat.le_refl 0⟩) (fun H locs I => ?_)
          refine lv_aload_n X.1 X.2.1 dX12_rest_61 rfl (lv_at hl 0 rfl) ?_
          refine g12_27 X I (k := 123) (by decide) rfl lf_X12_58 dX12_rest_62 ?_
          refine lv_bipush (v := 8) X.1 X.2.1 dX12_rest_65 (by decide) ?_
          refine lv_dup2_11 X.1 X.2.1 dX12_rest_67 rfl rfl ?_
          refine r_ald X I (k := 140) (n := 255) (by decide) rfl (by unfold vp_in; decide) dX12_rest_68 ?_
          refine lv_iconst (v := 5) X.1 X.2.1 dX12_rest_69 (by decide) ?_
          refine lv_iadd X.1 X.2.1 dX12_rest_70 ?_
          refine r_ast X I (k := 140) (n := 255) (by decide) rfl (by unfold vp_in; decide) dX12_rest_71 (fun H locs I => ?_)
          refine lv_aload_n X.1 X.2.1 dX12_rest_72 rfl (lv_at hl 0 rfl) ?_
          refine g12_27 X I (k := 123) (by decide) rfl lf_X12_58 dX12_rest_73 ?_
          refine lv_bipush (v := 9) X.1 X.2.1 dX12_rest_76 (by decide) ?_
          refine lv_iconst (v := 0) X.1 X.2.1 dX12_rest_78 (by decide) ?_
          refine lv_aload_n X.1 X.2.1 dX12_rest_79 rfl (lv_at hl 0 rfl) ?_
          refine g12_27 X I (k := 123) (by decide) rfl lf_X12_58 dX12_rest_80 ?_
          refine lv_bipush (v := 9) X.1 X.2.1 dX12_rest_83 (by decide) ?_
          refine r_ald X I (k := 140) (n := 255) (by decide) rfl (by unfold vp_in; decide) dX12_rest_85 ?_
          refine lv_bipush (v := 10) X.1 X.2.1 dX12_rest_86 (by decide) ?_
          refine lv_isub X.1 X.2.1 dX12_rest_88 ?_
          refine r_mmax X hl.1 lm_X12_303 ls_J9_max_7cf53 ln_J9 lc_J9_max_7cf53 (Nat.le_of_ble_eq_true rfl) (Nat.le_of_ble_eq_true rfl) (Nat.le_refl 0) (Nat.le_refl 0) dX12_rest_89 ?_
          refine r_ast X I (k := 140) (n := 255) (by decide) rfl (by unfold vp_in; decide) dX12_rest_92 (fun H locs I => ?_)
          refine lv_aload_n X.1 X.2.1 dX12_rest_93 rfl (lv_at hl 0 rfl) ?_
          refine g12_27 X I (k := 123) (by decide) rfl lf_X12_58 dX12_rest_94 ?_
          refine lv_bipush (v := 9) X.1 X.2.1 dX12_rest_97 (by decide) ?_
          refine r_ald X I (k := 140) (n := 255) (by decide) rfl (by unfold vp_in; decide) dX12_rest_99 ?_
          have h9 := hE
          exact r_iret X I (e_i (pr_fst h9) (pr_snd h9) rfl) dX12_rest_100
        · skip
          have hE := ite_t hE (b2i_y c_5)
          have ho := ite_tP ho (b2i_y c_5)
          refine lv_iconst (v := (-1)) X.1 X.2.1 dX12_rest_55 (by decide) ?_
          have h9 := hE
          exact r_iret X I (e_i (pr_fst h9) (pr_snd h9) rfl) dX12_rest_56
    · skip
      have hE := ite_t hE c_2
      have ho := ite_tP ho c_2
      refine lv_iconst (v := 2) X.1 X.2.1 dX12_rest_22 (by decide) ?_
      refine lv_goto (tgt := 49) X.1 X.2.1 dX12_rest_23 (by decide) ?_
      have ho5 := ho.1
      have ho := ho.2
      refine r_ei I (r_runV X I pk_X12_isRefused (c12_isRefused l G _ _ _ ho5) lm_X12_347 (by decide) (cl_12 rfl) rfl rfl rfl hl.1 rfl (Nat.le_of_ble_eq_true rfl) dX12_rest_49 ⟨Nat.le_of_ble_eq_true rfl, Nat.le_of_ble_eq_true rfl⟩ ⟨Nat.le_refl 0, Nat.le_refl 0⟩) (fun H locs I => ?_)
      refine lv_if_eq (tgt := 57) X.1 X.2.1 dX12_rest_52 (by decide) (fun c_6 => ?_) (fun c_6 => ?_)
      · skip
        have hE := ite_f hE (b2i_n c_6)
        have ho := ite_fP ho (b2i_n c_6)
        refine lv_aload_n X.1 X.2.1 dX12_rest_57 rfl (lv_at hl 0 rfl) ?_
        have ho6 := ho.1
        have ho := ho.2
        refine r_ev I (r_runV X I pk_X12_keep (c12_keep l G _ _ ho6) lm_X12_350 (by decide) (cl_12 rfl) rfl rfl rfl hl.1 rfl (Nat.le_of_ble_eq_true rfl) dX12_rest_58 ⟨Nat.le_of_ble_eq_true rfl, Nat.le_of_ble_eq_true rfl⟩ ⟨Nat.le_refl 0, Nat.le_refl 0⟩) (fun H locs I => ?_)
        refine lv_aload_n X.1 X.2.1 dX12_rest_61 rfl (lv_at hl 0 rfl) ?_
        refine g12_27 X I (k := 123) (by decide) rfl lf_X12_58 dX12_rest_62 ?_
        refine lv_bipush (v := 8) X.1 X.2.1 dX12_rest_65 (by decide) ?_
        refine lv_dup2_11 X.1 X.2.1 dX12_rest_67 rfl rfl ?_
        refine r_ald X I (k := 140) (n := 255) (by decide) rfl (by unfold vp_in; decide) dX12_rest_68 ?_
        refine lv_iconst (v := 5) X.1 X.2.1 dX12_rest_69 (by decide) ?_
        refine lv_iadd X.1 X.2.1 dX12_rest_70 ?_
        refine r_ast X I (k := 140) (n := 255) (by decide) rfl (by unfold vp_in; decide) dX12_rest_71 (fun H locs I => ?_)
        refine lv_aload_n X.1 X.2.1 dX12_rest_72 rfl (lv_at hl 0 rfl) ?_
        refine g12_27 X I (k := 123) (by decide) rfl lf_X12_58 dX12_rest_73 ?_
        refine lv_bipush (v := 9) X.1 X.2.1 dX12_rest_76 (by decide) ?_
        refine lv_iconst (v := 0) X.1 X.2.1 dX12_rest_78 (by decide) ?_
        refine lv_aload_n X.1 X.2.1 dX12_rest_79 rfl (lv_at hl 0 rfl) ?_
        refine g12_27 X I (k := 123) (by decide) rfl lf_X12_58 dX12_rest_80 ?_
        refine lv_bipush (v := 9) X.1 X.2.1 dX12_rest_83 (by decide) ?_
        refine r_ald X I (k := 140) (n := 255) (by decide) rfl (by unfold vp_in; decide) dX12_rest_85 ?_
        refine lv_bipush (v := 10) X.1 X.2.1 dX12_rest_86 (by decide) ?_
        refine lv_isub X.1 X.2.1 dX12_rest_88 ?_
        refine r_mmax X hl.1 lm_X12_303 ls_J9_max_7cf53 ln_J9 lc_J9_max_7cf53 (Nat.le_of_ble_eq_true rfl) (Nat.le_of_ble_eq_true rfl) (Nat.le_refl 0) (Nat.le_refl 0) dX12_rest_89 ?_
        refine r_ast X I (k := 140) (n := 255) (by decide) rfl (by unfold vp_in; decide) dX12_rest_92 (fun H locs I => ?_)
        refine lv_aload_n X.1 X.2.1 dX12_rest_93 rfl (lv_at hl 0 rfl) ?_
        refine g12_27 X I (k := 123) (by decide) rfl lf_X12_58 dX12_rest_94 ?_
        refine lv_bipush (v := 9) X.1 X.2.1 dX12_rest_97 (by decide) ?_
        refine r_ald X I (k := 140) (n := 255) (by decide) rfl (by unfold vp_in; decide) dX12_rest_99 ?_
        have h9 := hE
        exact r_iret X I (e_i (pr_fst h9) (pr_snd h9) rfl) dX12_rest_100
      · skip
        have hE := ite_t hE (b2i_y c_6)
        have ho := ite_tP ho (b2i_y c_6)
        refine lv_iconst (v := (-1)) X.1 X.2.1 dX12_rest_55 (by decide) ?_
        have h9 := hE
        exact r_iret X I (e_i (pr_fst h9) (pr_snd h9) rfl) dX12_rest_56
  · skip
    have hE := ite_t hE c_1
    have ho := ite_tP ho c_1
    refine lv_iconst (v := 0) X.1 X.2.1 dX12_rest_8 (by decide) ?_
    refine lv_goto (tgt := 49) X.1 X.2.1 dX12_rest_9 (by decide) ?_
    have ho7 := ho.1
    have ho := ho.2
    refine r_ei I (r_runV X I pk_X12_isRefused (c12_isRefused l G _ _ _ ho7) lm_X12_347 (by decide) (cl_12 rfl) rfl rfl rfl hl.1 rfl (Nat.le_of_ble_eq_true rfl) dX12_rest_49 ⟨Nat.le_of_ble_eq_true rfl, Nat.le_of_ble_eq_true rfl⟩ ⟨Nat.le_refl 0, Nat.le_refl 0⟩) (fun H locs I => ?_)
    refine lv_if_eq (tgt := 57) X.1 X.2.1 dX12_rest_52 (by decide) (fun c_7 => ?_) (fun c_7 => ?_)
    · skip
      have hE := ite_f hE (b2i_n c_7)
      have ho := ite_fP ho (b2i_n c_7)
      refine lv_aload_n X.1 X.2.1 dX12_rest_57 rfl (lv_at hl 0 rfl) ?_
      have ho8 := ho.1
      have ho := ho.2
      refine r_ev I (r_runV X I pk_X12_keep (c12_keep l G _ _ ho8) lm_X12_350 (by decide) (cl_12 rfl) rfl rfl rfl hl.1 rfl (Nat.le_of_ble_eq_true rfl) dX12_rest_58 ⟨Nat.le_of_ble_eq_true rfl, Nat.le_of_ble_eq_true rfl⟩ ⟨Nat.le_refl 0, Nat.le_refl 0⟩) (fun H locs I => ?_)
      refine lv_aload_n X.1 X.2.1 dX12_rest_61 rfl (lv_at hl 0 rfl) ?_
      refine g12_27 X I (k := 123) (by decide) rfl lf_X12_58 dX12_rest_62 ?_
      refine lv_bipush (v := 8) X.1 X.2.1 dX12_rest_65 (by decide) ?_
      refine lv_dup2_11 X.1 X.2.1 dX12_rest_67 rfl rfl ?_
      refine r_ald X I (k := 140) (n := 255) (by decide) rfl (by unfold vp_in; decide) dX12_rest_68 ?_
      refine lv_iconst (v := 5) X.1 X.2.1 dX12_rest_69 (by decide) ?_
      refine lv_iadd X.1 X.2.1 dX12_rest_70 ?_
      refine r_ast X I (k := 140) (n := 255) (by decide) rfl (by unfold vp_in; decide) dX12_rest_71 (fun H locs I => ?_)
      refine lv_aload_n X.1 X.2.1 dX12_rest_72 rfl (lv_at hl 0 rfl) ?_
      refine g12_27 X I (k := 123) (by decide) rfl lf_X12_58 dX12_rest_73 ?_
      refine lv_bipush (v := 9) X.1 X.2.1 dX12_rest_76 (by decide) ?_
      refine lv_iconst (v := 0) X.1 X.2.1 dX12_rest_78 (by decide) ?_
      refine lv_aload_n X.1 X.2.1 dX12_rest_79 rfl (lv_at hl 0 rfl) ?_
      refine g12_27 X I (k := 123) (by decide) rfl lf_X12_58 dX12_rest_80 ?_
      refine lv_bipush (v := 9) X.1 X.2.1 dX12_rest_83 (by decide) ?_
      refine r_ald X I (k := 140) (n := 255) (by decide) rfl (by unfold vp_in; decide) dX12_rest_85 ?_
      refine lv_bipush (v := 10) X.1 X.2.1 dX12_rest_86 (by decide) ?_
      refine lv_isub X.1 X.2.1 dX12_rest_88 ?_
      refine r_mmax X hl.1 lm_X12_303 ls_J9_max_7cf53 ln_J9 lc_J9_max_7cf53 (Nat.le_of_ble_eq_true rfl) (Nat.le_of_ble_eq_true rfl) (Nat.le_refl 0) (Nat.le_refl 0) dX12_rest_89 ?_
      refine r_ast X I (k := 140) (n := 255) (by decide) rfl (by unfold vp_in; decide) dX12_rest_92 (fun H locs I => ?_)
      refine lv_aload_n X.1 X.2.1 dX12_rest_93 rfl (lv_at hl 0 rfl) ?_
      refine g12_27 X I (k := 123) (by decide) rfl lf_X12_58 dX12_rest_94 ?_
      refine lv_bipush (v := 9) X.1 X.2.1 dX12_rest_97 (by decide) ?_
      refine r_ald X I (k := 140) (n := 255) (by decide) rfl (by unfold vp_in; decide) dX12_rest_99 ?_
      have h9 := hE
      exact r_iret X I (e_i (pr_fst h9) (pr_snd h9) rfl) dX12_rest_100
    · skip
      have hE := ite_t hE (b2i_y c_7)
      have ho := ite_tP ho (b2i_y c_7)
      refine lv_iconst (v := (-1)) X.1 X.2.1 dX12_rest_55 (by decide) ?_
      have h9 := hE
      exact r_iret X I (e_i (pr_fst h9) (pr_snd h9) rfl) dX12_rest_56
