noncomputable def f12_give (σ : SI) (x1 : Int32) : Int32 × SI := if (σ 123 25) = (0 : Int32) then (let r9 := (f12_isRefused σ (0 : Int32)); if r9.1 = true then ((-1 : Int32), r9.2) else (let s10 := (f12_keep r9.2); let s11 := sp s10 140 7 ((s10 140 7) + x1); (((s10 140 7) + x1), s11))) else (if (f12_in x1 (1 : Int32) (50 : Int32)) = true then (if ((σ 140 7) + x1) ≤ (999 : Int32) then (let r3 := (f12_isRefused σ (-1 : Int32)); if r3.1 = true then ((-1 : Int32), r3.2) else (let s4 := (f12_keep r3.2); let s5 := sp s4 140 7 ((s4 140 7) + x1); (((s4 140 7) + x1), s5))) else (let r6 := (f12_isRefused σ (1 : Int32)); if r6.1 = true then ((-1 : Int32), r6.2) else (let s7 := (f12_keep r6.2); let s8 := sp s7 140 7 ((s7 140 7) + x1); (((s7 140 7) + x1), s8)))) else (let r0 := (f12_isRefused σ (1 : Int32)); if r0.1 = true then ((-1 : Int32), r0.2) else (let s1 := (f12_keep r0.2); let s2 := sp s1 140 7 ((s1 140 7) + x1); (((s1 140 7) + x1), s2))))
noncomputable def o12_give (σ : SI) (x1 : Int32) : Prop := if (σ 123 25) = (0 : Int32) then ((o12_isRefused σ (0 : Int32)) ∧ (let r9 := (f12_isRefused σ (0 : Int32)); if r9.1 = true then True else ((o12_keep r9.2) ∧ (let s10 := (f12_keep r9.2); let s11 := sp s10 140 7 ((s10 140 7) + x1); True)))) else (if (f12_in x1 (1 : Int32) (50 : Int32)) = true then (if ((σ 140 7) + x1) ≤ (999 : Int32) then ((o12_isRefused σ (-1 : Int32)) ∧ (let r3 := (f12_isRefused σ (-1 : Int32)); if r3.1 = true then True else ((o12_keep r3.2) ∧ (let s4 := (f12_keep r3.2); let s5 := sp s4 140 7 ((s4 140 7) + x1); True)))) else ((o12_isRefused σ (1 : Int32)) ∧ (let r6 := (f12_isRefused σ (1 : Int32)); if r6.1 = true then True else ((o12_keep r6.2) ∧ (let s7 := (f12_keep r6.2); let s8 := sp s7 140 7 ((s7 140 7) + x1); True))))) else ((o12_isRefused σ (1 : Int32)) ∧ (let r0 := (f12_isRefused σ (1 : Int32)); if r0.1 = true then True else ((o12_keep r0.2) ∧ (let s1 := (f12_keep r0.2); let s2 := sp s1 140 7 ((s1 140 7) + x1); True)))))
theorem w_f12_give (σ : SI) (x1 : Int32) (a : Nat) (h0 : a ≠ 123) (h1 : a ≠ 140) (h2 : a ≠ 141) (h3 : a ≠ 142) : (f12_give σ x1).2 a = σ a := by
  refine fp_to2 ?_
  unfold f12_give
  exact (fr_ite2 (fr_ite2 (fr_mk21 (w_f12_isRefused _ _ a h2)) (fr_mk21 ((sp_n h1).trans ((w_f12_keep _ a h0 h3).trans (w_f12_isRefused _ _ a h2))))) (fr_ite2 (fr_ite2 (fr_ite2 (fr_mk21 (w_f12_isRefused _ _ a h2)) (fr_mk21 ((sp_n h1).trans ((w_f12_keep _ a h0 h3).trans (w_f12_isRefused _ _ a h2))))) (fr_ite2 (fr_mk21 (w_f12_isRefused _ _ a h2)) (fr_mk21 ((sp_n h1).trans ((w_f12_keep _ a h0 h3).trans (w_f12_isRefused _ _ a h2)))))) (fr_ite2 (fr_mk21 (w_f12_isRefused _ _ a h2)) (fr_mk21 ((sp_n h1).trans ((w_f12_keep _ a h0 h3).trans (w_f12_isRefused _ _ a h2)))))))
set_option maxHeartbeats 4000000 in
set_option maxRecDepth 100000 in
theorem c12_give (l : Launch) (G : GT) (σ : SI) (τ : SL) (x1 : Int32) (ho : o12_give σ x1) : Mc l yX12_give cX12_give 2 (some .int) 1 G [.ref (G.2.1 123), .int x1] σ τ (Qi G (Ei (f12_give σ x1).1 (f12_give σ x1).2 τ)) := by
  refine m_start (by decide +kernel) (Nat.le_of_ble_eq_true rfl) rfl (fun p e s m args below meth c ls X I hl => ?_)
  have hl : lv_has ls 2 [(0, .ref (G.2.1 123)), (1, .int x1)] := hl
  obtain ⟨E, hE⟩ : ∃ E, E = (f12_give σ x1) := ⟨_, rfl⟩
  rw [← hE]
  unfold o12_give at ho
  refine lv_aload_n X.1 X.2.1 dX12_give_0 rfl (lv_at hl 0 rfl) ?_
  refine lv_aload_n X.1 X.2.1 dX12_give_1 rfl (lv_at hl 0 rfl) ?_
  refine g12_25 X I (k := 123) (by decide) rfl lf_X12_264 dX12_give_2 ?_
  refine lv_if_ne (tgt := 12) X.1 X.2.1 dX12_give_5 (by decide) (fun c_1 => ?_) (fun c_1 => ?_)
  · skip
    have hE := ite_f hE c_1
    have ho := ite_fP ho c_1
    refine lv_iload_n X.1 X.2.1 dX12_give_12 rfl (lv_at hl 1 rfl) ?_
    refine lv_iconst (v := 1) X.1 X.2.1 dX12_give_13 (by decide) ?_
    refine lv_bipush (v := 50) X.1 X.2.1 dX12_give_14 (by decide) ?_
    refine r_ei I (r_runS X I pk_X12_in (c12_in l G _ _ _ _ _) lm_X12_220 rfl hl.1 rfl (Nat.le_of_ble_eq_true rfl) dX12_give_16 ⟨Nat.le_of_ble_eq_true rfl, Nat.le_of_ble_eq_true rfl⟩ ⟨Nat.le_refl 0, Nat.le_refl 0⟩) (fun H locs I => ?_)
    refine lv_if_eq (tgt := 37) X.1 X.2.1 dX12_give_19 (by decide) (fun c_2 => ?_) (fun c_2 => ?_)
    · skip
      have hE := ite_f hE (b2i_n c_2)
      have ho := ite_fP ho (b2i_n c_2)
      refine lv_iconst (v := 1) X.1 X.2.1 dX12_give_37 (by decide) ?_
      refine lv_goto (tgt := 42) X.1 X.2.1 dX12_give_38 (by decide) ?_
      have ho1 := ho.1
      have ho := ho.2
      refine r_ei I (r_runV X I pk_X12_isRefused (c12_isRefused l G _ _ _ ho1) lm_X12_347 (by decide) (cl_12 rfl) rfl rfl rfl hl.1 rfl (Nat.le_of_ble_eq_true rfl) dX12_give_42 ⟨Nat.le_of_ble_eq_true rfl, Nat.le_of_ble_eq_true rfl⟩ ⟨Nat.le_refl 0, Nat.le_refl 0⟩) (fun H locs I => ?_)
      refine lv_if_eq (tgt := 50) X.1 X.2.1 dX12_give_45 (by decide) (fun c_3 => ?_) (fun c_3 => ?_)
      · skip
        have hE := ite_f hE (b2i_n c_3)
        have ho := ite_fP ho (b2i_n c_3)
        refine lv_aload_n X.1 X.2.1 dX12_give_50 rfl (lv_at hl 0 rfl) ?_
        have ho2 := ho.1
        have ho := ho.2
        refine r_ev I (r_runV X I pk_X12_keep (c12_keep l G _ _ ho2) lm_X12_350 (by decide) (cl_12 rfl) rfl rfl rfl hl.1 rfl (Nat.le_of_ble_eq_true rfl) dX12_give_51 ⟨Nat.le_of_ble_eq_true rfl, Nat.le_of_ble_eq_true rfl⟩ ⟨Nat.le_refl 0, Nat.le_refl 0⟩) (fun H locs I => ?_)
        refine lv_aload_n X.1 X.2.1 dX12_give_54 rfl (lv_at hl 0 rfl) ?_
        refine g12_27 X I (k := 123) (by decide) rfl lf_X12_58 dX12_give_55 ?_
        refine lv_bipush (v := 7) X.1 X.2.1 dX12_give_58 (by decide) ?_
        refine lv_dup2_11 X.1 X.2.1 dX12_give_60 rfl rfl ?_
        refine r_ald X I (k := 140) (n := 255) (by decide) rfl (by unfold vp_in; decide) dX12_give_61 ?_
        refine lv_iload_n X.1 X.2.1 dX12_give_62 rfl (lv_at hl 1 rfl) ?_
        refine lv_iadd X.1 X.2.1 dX12_give_63 ?_
        refine r_ast X I (k := 140) (n := 255) (by decide) rfl (by unfold vp_in; decide) dX12_give_64 (fun H locs I => ?_)
        refine lv_aload_n X.1 X.2.1 dX12_give_65 rfl (lv_at hl 0 rfl) ?_
        refine g12_27 X I (k := 123) (by decide) rfl lf_X12_58 dX12_give_66 ?_
        refine lv_bipush (v := 7) X.1 X.2.1 dX12_give_69 (by decide) ?_
        refine r_ald X I (k := 140) (n := 255) (by decide) rfl (by unfold vp_in; decide) dX12_give_71 ?_
        have h9 := hE
        exact r_iret X I (e_i (pr_fst h9) (pr_snd h9) rfl) dX12_give_72
      · skip
        have hE := ite_t hE (b2i_y c_3)
        have ho := ite_tP ho (b2i_y c_3)
        refine lv_iconst (v := (-1)) X.1 X.2.1 dX12_give_48 (by decide) ?_
        have h9 := hE
        exact r_iret X I (e_i (pr_fst h9) (pr_snd h9) rfl) dX12_give_49
    · skip
      have hE := ite_t hE (b2i_y c_2)
      have ho := ite_tP ho (b2i_y c_2)
      refine lv_aload_n X.1 X.2.1 dX12_give_22 rfl (lv_at hl 0 rfl) ?_
      refine g12_27 X I (k := 123) (by decide) rfl lf_X12_58 dX12_give_23 ?_
      refine lv_bipush (v := 7) X.1 X.2.1 dX12_give_26 (by decide) ?_
      refine r_ald X I (k := 140) (n := 255) (by decide) rfl (by unfold vp_in; decide) dX12_give_28 ?_
      refine lv_iload_n X.1 X.2.1 dX12_give_29 rfl (lv_at hl 1 rfl) ?_
      refine lv_iadd X.1 X.2.1 dX12_give_30 ?_
      refine lv_sipush (v := 999) X.1 X.2.1 dX12_give_31 (by decide) ?_
      refine lv_icmp_le (tgt := 41) X.1 X.2.1 dX12_give_34 (by decide) (fun c_4 => ?_) (fun c_4 => ?_)
      · skip
        have hE := ite_t hE c_4
        have ho := ite_tP ho c_4
        refine lv_iconst (v := (-1)) X.1 X.2.1 dX12_give_41 (by decide) ?_
        have ho3 := ho.1
        have ho := ho.2
        refine r_ei I (r_runV X I pk_X12_isRefused (c12_isRefused l G _ _ _ ho3) lm_X12_347 (by decide) (cl_12 rfl) rfl rfl rfl hl.1 rfl (Nat.le_of_ble_eq_true rfl) dX12_give_42 ⟨Nat.le_of_ble_eq_true rfl, Nat.le_of_ble_eq_true rfl⟩ ⟨Nat.le_refl 0, Nat.le_refl 0⟩) (fun H locs I => ?_)
        refine lv_if_eq (tgt := 50) X.1 X.2.1 dX12_give_45 (by decide) (fun c_5 => ?_) (fun c_5 => ?_)
        · skip
          have hE := ite_f hE (b2i_n c_5)
          have ho := ite_fP ho (b2i_n c_5)
          refine lv_aload_n X.1 X.2.1 dX12_give_50 rfl (lv_at hl 0 rfl) ?_
          have ho4 := ho.1
          have ho := ho.2
          refine r_ev I (r_runV X I pk_X12_keep (c12_keep l G _ _ ho4) lm_X12_350 (by decide) (cl_12 rfl) rfl rfl rfl hl.1 rfl (Nat.le_of_ble_eq_true rfl) dX12_give_51 ⟨Nat.le_of_ble_eq_true rfl, Nat.le_of_ble_eq_true rfl⟩ ⟨Nat.le_refl 0, Nat.le_refl 0⟩) (fun H locs I => ?_)
          refine lv_aload_n X.1 X.2.1 dX12_give_54 rfl (lv_at hl 0 rfl) ?_
          refine g12_27 X I (k := 123) (by decide) rfl lf_X12_58 dX12_give_55 ?_
          refine lv_bipush (v := 7) X.1 X.2.1 dX12_give_58 (by decide) ?_
          refine lv_dup2_11 X.1 X.2.1 dX12_give_60 rfl rfl ?_
          refine r_ald X I (k := 140) (n := 255) (by decide) rfl (by unfold vp_in; decide) dX12_give_61 ?_
          refine lv_iload_n X.1 X.2.1 dX12_give_62 rfl (lv_at hl 1 rfl) ?_
          refine lv_iadd X.1 X.2.1 dX12_give_63 ?_
          refine r_ast X I (k := 140) (n := 255) (by decide) rfl (by unfold vp_in; decide) dX12_give_64 (fun H locs I => ?_)
          refine lv_aload_n X.1 X.2.1 dX12_give_65 rfl (lv_at hl 0 rfl) ?_
          refine g12_27 X I (k := 123) (by decide) rfl lf_X12_58 dX12_give_66 ?_
          refine lv_bipush (v := 7) X.1 X.2.1 dX12_give_69 (by decide) ?_
          refine r_ald X I (k := 140) (n := 255) (by decide) rfl (by unfold vp_in; decide) dX12_give_71 ?_
          have h9 := hE
          exact r_iret X I (e_i (pr_fst h9) (pr_snd h9) rfl) dX12_give_72
        · skip
          have hE := ite_t hE (b2i_y c_5)
          have ho := ite_tP ho (b2i_y c_5)
          refine lv_iconst (v := (-1)) X.1 X.2.1 dX12_give_48 (by decide) ?_
          have h9 := hE
          exact r_iret X I (e_i (pr_fst h9) (pr_snd h9) rfl) dX12_give_49
      · skip
        have hE := ite_f hE c_4
        have ho := ite_fP ho c_4
        refine lv_iconst (v := 1) X.1 X.2.1 dX12_give_37 (by decide) ?_
        refine lv_goto (tgt := 42) X.1 X.2.1 dX12_give_38 (by decide) ?_
        have ho5 := ho.1
        have ho := ho.2
        refine r_ei I (r_runV X I pk_X12_isRefused (c12_isRefused l G _ _ _ ho5) lm_X12_347 (by decide) (cl_12 rfl) rfl rfl rfl hl.1 rfl (Nat.le_of_ble_eq_true rfl) dX12_give_42 ⟨Nat.le_of_ble_eq_true rfl, Nat.le_of_ble_eq_true rfl⟩ ⟨Nat.le_refl 0, Nat.le_refl 0⟩) (fun H locs I => ?_)
        refine lv_if_eq (tgt := 50) X.1 X.2.1 dX12_give_45 (by decide) (fun c_6 => ?_) (fun c_6 => ?_)
        · skip
          have hE := ite_f hE (b2i_n c_6)
          have ho := ite_fP ho (b2i_n c_6)
          refine lv_aload_n X.1 X.2.1 dX12_give_50 rfl (lv_at hl 0 rfl) ?_
          have ho6 := ho.1
          have ho := ho.2
          refine r_ev I (r_runV X I pk_X12_keep (c12_keep l G _ _ ho6) lm_X12_350 (by decide) (cl_12 rfl) rfl rfl rfl hl.1 rfl (Nat.le_of_ble_eq_true rfl) dX12_give_51 ⟨Nat.le_of_ble_eq_true rfl, Nat.le_of_ble_eq_true rfl⟩ ⟨Nat.le_refl 0, Nat.le_refl 0⟩) (fun H locs I => ?_)
          refine lv_aload_n X.1 X.2.1 dX12_give_54 rfl (lv_at hl 0 rfl) ?_
          refine g12_27 X I (k := 123) (by decide) rfl lf_X12_58 dX12_give_55 ?_
          refine lv_bipush (v := 7) X.1 X.2.1 dX12_give_58 (by decide) ?_
          refine lv_dup2_11 X.1 X.2.1 dX12_give_60 rfl rfl ?_
          refine r_ald X I (k := 140) (n := 255) (by decide) rfl (by unfold vp_in; decide) dX12_give_61 ?_
          refine lv_iload_n X.1 X.2.1 dX12_give_62 rfl (lv_at hl 1 rfl) ?_
          refine lv_iadd X.1 X.2.1 dX12_give_63 ?_
          refine r_ast X I (k := 140) (n := 255) (by decide) rfl (by unfold vp_in; decide) dX12_give_64 (fun H locs I => ?_)
          refine lv_aload_n X.1 X.2.1 dX12_give_65 rfl (lv_at hl 0 rfl) ?_
          refine g12_27 X I (k := 123) (by decide) rfl lf_X12_58 dX12_give_66 ?_
          refine lv_bipush (v := 7) X.1 X.2.1 dX12_give_69 (by decide) ?_
          refine r_ald X I (k := 140) (n := 255) (by decide) rfl (by unfold vp_in; decide) dX12_give_71 ?_
          have h9 := hE
          exact r_iret X I (e_i (pr_fst h9) (pr_snd h9) rfl) dX12_give_72
        · skip
          have hE := ite_t hE (b2i_y c_6)
          have ho := ite_tP ho (b2i_y c_6)
          refine lv_iconst (v := (-1)) X.1 X.2.1 dX12_give_48 (by decide) ?_
          have h9 := hE
          exact r_iret X I (e_i (pr_fst h9) (pr_snd h9) rfl) dX12_give_49
  · skip
    have hE := ite_t hE c_1
    have ho := ite_tP ho c_1
    refine lv_iconst (v := 0) X.1 X.2.1 dX12_give_8 (by decide) ?_
    refine lv_goto (tgt := 42) X.1 X.2.1 dX12_give_9 (by decide) ?_
    have ho7 := ho.1
    have ho := ho.2
    refine r_ei I (r_runV X I pk_X12_isRefused (c12_isRefused l G _ _ _ ho7) lm_X12_347 (by decide) (cl_12 rfl) rfl rfl rfl hl.1 rfl (Nat.le_of_ble_eq_true rfl) dX12_give_42 ⟨Nat.le_of_ble_eq_true rfl, Nat.le_of_ble_eq_true rfl⟩ ⟨Nat.le_refl 0, Nat.le_refl 0⟩) (fun H locs I => ?_)
    refine lv_if_eq (tgt := 50) X.1 X.2.1 dX12_give_45 (by decide) (fun c_7 => ?_) (fun c_7 => ?_)
    · skip
      have hE := ite_f hE (b2i_n c_7)
      have ho := ite_fP ho (b2i_n c_7)
      refine lv_aload_n X.1 X.2.1 dX12_give_50 rfl (lv_at hl 0 rfl) ?_
      have ho8 := ho.1
      have ho := ho.2
      refine r_ev I (r_runV X I pk_X12_keep (c12_keep l G _ _ ho8) lm_X12_350 (by decide) (cl_12 rfl) rfl rfl rfl hl.1 rfl (Nat.le_of_ble_eq_true rfl) dX12_give_51 ⟨Nat.le_of_ble_eq_true rfl, Nat.le_of_ble_eq_true rfl⟩ ⟨Nat.le_refl 0, Nat.le_refl 0⟩) (fun H locs I => ?_)
      refine lv_aload_n X.1 X.2.1 dX12_give_54 rfl (lv_at hl 0 rfl) ?_
      refine g12_27 X I (k := 123) (by decide) rfl lf_X12_58 dX12_give_55 ?_
      refine lv_bipush (v := 7) X.1 X.2.1 dX12_give_58 (by decide) ?_
      refine lv_dup2_11 X.1 X.2.1 dX12_give_60 rfl rfl ?_
      refine r_ald X I (k := 140) (n := 255) (by decide) rfl (by unfold vp_in; decide) dX12_give_61 ?_
      refine lv_iload_n X.1 X.2.1 dX12_give_62 rfl (lv_at hl 1 rfl) ?_
      refine lv_iadd X.1 X.2.1 dX12_give_63 ?_
      refine r_ast X I (k := 140) (n := 255) (by decide) rfl (by unfold vp_in; decide) dX12_give_64 (fun H locs I => ?_)
      refine lv_aload_n X.1 X.2.1 dX12_give_65 rfl (lv_at hl 0 rfl) ?_
      refine g12_27 X I (k := 123) (by decide) rfl lf_X12_58 dX12_give_66 ?_
      refine lv_bipush (v := 7) X.1 X.2.1 dX12_give_69 (by decide) ?_
      refine r_ald X I (k := 140) (n := 255) (by decide) rfl (by unfold vp_in; decide) dX12_give_71 ?_
      have h9 := hE
      exact r_iret X I (e_i (pr_fst h9) (pr_snd h9) rfl) dX12_give_72
    · skip
      have hE := ite_t hE (b2i_y c_7)
      have ho := ite_tP ho (b2i_y c_7)
      refine lv_iconst (v := (-1)) X.1 X.2.1 dX12_give_48 (by decide) ?_
      have h9 := hE
      exact r_iret X I (e_i (pr_fst h9) (pr_snd h9) rfl) dX12_give_49
noncomputable def f12_passYear_c2 : Nat → Int32 → SI → SI
  | 0, _, σ => σ
  | fu + 1, v1, σ => if (σ 123 25) ≤ v1 then (let s0 := sp σ 140 8 (0 : Int32); let s1 := sp s0 140 9 (0 : Int32); let s2 := sp s1 140 10 (-1 : Int32); let s3 := sp s2 140 11 (0 : Int32); let s4 := sp s3 140 12 ((σ 140 12) + (1 : Int32)); s4) else (if (f12_isThankful σ v1) = true then (let s6 := sp σ 140 (Int32.toNatClampNeg ((0 : Int32) + v1)) (σ 140 (Int32.toNatClampNeg ((0 : Int32) + v1))); (f12_passYear_c2 fu (v1 + 1) s6)) else (let s5 := sp σ 140 (Int32.toNatClampNeg ((0 : Int32) + v1)) (if ((σ 140 (Int32.toNatClampNeg ((0 : Int32) + v1))) + (σ 137 2)) < (30 : Int32) then ((σ 140 (Int32.toNatClampNeg ((0 : Int32) + v1))) + (σ 137 2)) else (30 : Int32)); (f12_passYear_c2 fu (v1 + 1) s5)))
noncomputable def o12_passYear_c2 : Nat → Int32 → SI → Prop
  | 0, _, _ => True
  | fu + 1, v1, σ => if (σ 123 25) ≤ v1 then (let s0 := sp σ 140 8 (0 : Int32); let s1 := sp s0 140 9 (0 : Int32); let s2 := sp s1 140 10 (-1 : Int32); let s3 := sp s2 140 11 (0 : Int32); let s4 := sp s3 140 12 ((σ 140 12) + (1 : Int32)); True) else ((o12_isThankful σ v1) ∧ (if (f12_isThankful σ v1) = true then ((vp_in ((0 : Int32) + v1) 255) ∧ ((vp_in ((0 : Int32) + v1) 255) ∧ (let s6 := sp σ 140 (Int32.toNatClampNeg ((0 : Int32) + v1)) (σ 140 (Int32.toNatClampNeg ((0 : Int32) + v1))); (o12_passYear_c2 fu (v1 + 1) s6)))) else ((vp_in ((0 : Int32) + v1) 255) ∧ ((vp_in ((0 : Int32) + v1) 255) ∧ (let s5 := sp σ 140 (Int32.toNatClampNeg ((0 : Int32) + v1)) (if ((σ 140 (Int32.toNatClampNeg ((0 : Int32) + v1))) + (σ 137 2)) < (30 : Int32) then ((σ 140 (Int32.toNatClampNeg ((0 : Int32) + v1))) + (σ 137 2)) else (30 : Int32)); (o12_passYear_c2 fu (v1 + 1) s5))))))
noncomputable def f12_passYear (σ : SI) : SI := (f12_passYear_c2 (fu1 ((Int32.toInt (σ 123 25) - Int32.toInt (0 : Int32)).toNat)) (0 : Int32) σ)
noncomputable def o12_passYear (σ : SI) : Prop := (o12_passYear_c2 (fu1 ((Int32.toInt (σ 123 25) - Int32.toInt (0 : Int32)).toNat)) (0 : Int32) σ)
theorem w_f12_passYear_c2 (a : Nat) (h0 : a ≠ 140) : ∀ (fu : Nat) (v1 : Int32) (σ : SI), (f12_passYear_c2 fu v1 σ) a = σ a := by
  intro fu
  induction fu with
  | zero => intro v1 σ; exact rfl
  | succ fu ih =>
    intro v1 σ
    unfold f12_passYear_c2
    exact (fr_ite ((sp_n h0).trans ((sp_n h0).trans ((sp_n h0).trans ((sp_n h0).trans (sp_n h0))))) (fr_ite ((ih _ _).trans (sp_n h0)) ((ih _ _).trans (sp_n h0))))
theorem w_f12_passYear (σ : SI) (a : Nat) (h0 : a ≠ 140) : (f12_passYear σ) a = σ a := by
  unfold f12_passYear
  exact (w_f12_passYear_c2 a h0 _ _ _)
set_option maxHeartbeats 4000000 in
set_option maxRecDepth 100000 in
theorem c12_passYear_c2 {l : Launch} {p : Program} {e : Env} {s : State} {m : MethodId} {args : Array Value} {below : List Frame} {meth : Method} {c : Code} {G : GT} (X : CX p s m args meth c cX12_passYear RX12 2 none G) {E : SI} (τ : SL) : ∀ (fu : Nat) (v1 : Int32) (σ : SI) (H : Heap) (locs : List Loc) (ls : Array Slot), IX G s H locs σ τ → lv_has ls 2 [(0, .ref (G.2.1 123)), (1, .int v1)] → (o12_passYear_c2 fu v1 σ) → (Int32.toInt (σ 123 25) - Int32.toInt v1).toNat < fu → E = (f12_passYear_c2 fu v1 σ) → W p l e (rmN 2) s m args below meth c H locs 0 0 (MQ below ((Qv G (Ev E τ)) s.heap.size) args s 0 0 (AW G s.heap.size)) (F0 m 2 ls []) := by
  intro fu
  induction fu with
  | zero =>
    intro v1 σ H locs ls I hl  ho hm hE
    exact absurd hm (Nat.not_lt_zero _)
  | succ fu ih =>
    intro v1 σ H locs ls I hl  ho hm hE
    unfold o12_passYear_c2 at ho
    refine lv_iload_n X.1 X.2.1 dX12_passYear_2 rfl (lv_at hl 1 rfl) ?_
    refine lv_aload_n X.1 X.2.1 dX12_passYear_3 rfl (lv_at hl 0 rfl) ?_
    refine g12_25 X I (k := 123) (by decide) rfl lf_X12_264 dX12_passYear_4 ?_
    refine lv_icmp_ge (tgt := 63) X.1 X.2.1 dX12_passYear_7 (by decide) (fun c_1 => ?_) (fun c_1 => ?_)
    · skip
      have hE := ite_t hE c_1
      have ho := ite_tP ho c_1
      refine lv_aload_n X.1 X.2.1 dX12_passYear_63 rfl (lv_at hl 0 rfl) ?_
      refine g12_27 X I (k := 123) (by decide) rfl lf_X12_58 dX12_passYear_64 ?_
      refine lv_bipush (v := 8) X.1 X.2.1 dX12_passYear_67 (by decide) ?_
      refine lv_iconst (v := 0) X.1 X.2.1 dX12_passYear_69 (by decide) ?_
      refine r_ast X I (k := 140) (n := 255) (by decide) rfl (by unfold vp_in; decide) dX12_passYear_70 (fun H locs I => ?_)
      refine lv_aload_n X.1 X.2.1 dX12_passYear_71 rfl (lv_at hl 0 rfl) ?_
      refine g12_27 X I (k := 123) (by decide) rfl lf_X12_58 dX12_passYear_72 ?_
      refine lv_bipush (v := 9) X.1 X.2.1 dX12_passYear_75 (by decide) ?_
      refine lv_iconst (v := 0) X.1 X.2.1 dX12_passYear_77 (by decide) ?_
      refine r_ast X I (k := 140) (n := 255) (by decide) rfl (by unfold vp_in; decide) dX12_passYear_78 (fun H locs I => ?_)
      refine lv_aload_n X.1 X.2.1 dX12_passYear_79 rfl (lv_at hl 0 rfl) ?_
      refine g12_27 X I (k := 123) (by decide) rfl lf_X12_58 dX12_passYear_80 ?_
      refine lv_bipush (v := 10) X.1 X.2.1 dX12_passYear_83 (by decide) ?_
      refine lv_iconst (v := (-1)) X.1 X.2.1 dX12_passYear_85 (by decide) ?_
      refine r_ast X I (k := 140) (n := 255) (by decide) rfl (by unfold vp_in; decide) dX12_passYear_86 (fun H locs I => ?_)
      refine lv_aload_n X.1 X.2.1 dX12_passYear_87 rfl (lv_at hl 0 rfl) ?_
      refine g12_27 X I (k := 123) (by decide) rfl lf_X12_58 dX12_passYear_88 ?_
      refine lv_bipush (v := 11) X.1 X.2.1 dX12_passYear_91 (by decide) ?_
      refine lv_iconst (v := 0) X.1 X.2.1 dX12_passYear_93 (by decide) ?_
      refine r_ast X I (k := 140) (n := 255) (by decide) rfl (by unfold vp_in; decide) dX12_passYear_94 (fun H locs I => ?_)
      refine lv_aload_n X.1 X.2.1 dX12_passYear_95 rfl (lv_at hl 0 rfl) ?_
      refine g12_27 X I (k := 123) (by decide) rfl lf_X12_58 dX12_passYear_96 ?_
      refine lv_bipush (v := 12) X.1 X.2.1 dX12_passYear_99 (by decide) ?_
      refine lv_dup2_11 X.1 X.2.1 dX12_passYear_101 rfl rfl ?_
      refine r_ald X I (k := 140) (n := 255) (by decide) rfl (by unfold vp_in; decide) dX12_passYear_102 ?_
      refine lv_iconst (v := 1) X.1 X.2.1 dX12_passYear_103 (by decide) ?_
      refine lv_iadd X.1 X.2.1 dX12_passYear_104 ?_
      refine r_ast X I (k := 140) (n := 255) (by decide) rfl (by unfold vp_in; decide) dX12_passYear_105 (fun H locs I => ?_)
      have h9 := hE
      exact r_vret X I (e_v h9.symm rfl) dX12_passYear_106
    · skip
      have hE := ite_f hE c_1
      have ho := ite_fP ho c_1
      refine lv_aload_n X.1 X.2.1 dX12_passYear_10 rfl (lv_at hl 0 rfl) ?_
      refine g12_27 X I (k := 123) (by decide) rfl lf_X12_58 dX12_passYear_11 ?_
      refine lv_iconst (v := 0) X.1 X.2.1 dX12_passYear_14 (by decide) ?_
      refine lv_iload_n X.1 X.2.1 dX12_passYear_15 rfl (lv_at hl 1 rfl) ?_
      refine lv_iadd X.1 X.2.1 dX12_passYear_16 ?_
      refine lv_aload_n X.1 X.2.1 dX12_passYear_17 rfl (lv_at hl 0 rfl) ?_
      refine lv_iload_n X.1 X.2.1 dX12_passYear_18 rfl (lv_at hl 1 rfl) ?_
      have ho1 := ho.1
      have ho := ho.2
      refine r_ei I (r_runV X I pk_X12_isThankful (c12_isThankful l G _ _ _ ho1) lm_X12_295 (by decide) (cl_12 rfl) rfl rfl rfl hl.1 rfl (Nat.le_of_ble_eq_true rfl) dX12_passYear_19 ⟨Nat.le_of_ble_eq_true rfl, Nat.le_of_ble_eq_true rfl⟩ ⟨Nat.le_refl 0, Nat.le_refl 0⟩) (fun H locs I => ?_)
      refine lv_if_eq (tgt := 36) X.1 X.2.1 dX12_passYear_22 (by decide) (fun c_2 => ?_) (fun c_2 => ?_)
      · skip
        have hE := ite_f hE (b2i_n c_2)
        have ho := ite_fP ho (b2i_n c_2)
        refine lv_bipush (v := 30) X.1 X.2.1 dX12_passYear_36 (by decide) ?_
        refine lv_aload_n X.1 X.2.1 dX12_passYear_38 rfl (lv_at hl 0 rfl) ?_
        refine g12_27 X I (k := 123) (by decide) rfl lf_X12_58 dX12_passYear_39 ?_
        refine lv_iconst (v := 0) X.1 X.2.1 dX12_passYear_42 (by decide) ?_
        refine lv_iload_n X.1 X.2.1 dX12_passYear_43 rfl (lv_at hl 1 rfl) ?_
        refine lv_iadd X.1 X.2.1 dX12_passYear_44 ?_
        have ho2 := ho.1
        have ho := ho.2
        refine r_ald X I (k := 140) (n := 255) (by decide) rfl ho2 dX12_passYear_45 ?_
        refine lv_aload_n X.1 X.2.1 dX12_passYear_46 rfl (lv_at hl 0 rfl) ?_
        refine g12_22 X I (k := 123) (by decide) rfl lf_X12_49 dX12_passYear_47 ?_
        refine lv_iconst (v := 2) X.1 X.2.1 dX12_passYear_50 (by decide) ?_
        refine r_ald X I (k := 137) (n := 3) (by decide) rfl (by unfold vp_in; decide) dX12_passYear_51 ?_
        refine lv_iadd X.1 X.2.1 dX12_passYear_52 ?_
        refine r_mmin X hl.1 lm_X12_301 ls_J9_min_7cf53 ln_J9 lc_J9_min_7cf53 (Nat.le_of_ble_eq_true rfl) (Nat.le_of_ble_eq_true rfl) (Nat.le_refl 0) (Nat.le_refl 0) dX12_passYear_53 ?_
        have ho3 := ho.1
        have ho := ho.2
        refine r_ast X I (k := 140) (n := 255) (by decide) rfl ho3 dX12_passYear_56 (fun H locs I => ?_)
        refine lv_iinc (v := _ + 1) (lv' := [(1, .int _), (0, .ref _)]) X.1 X.2.1 dX12_passYear_57 hl (k := 1) rfl rfl (by decide) rfl (fun ls hl => ?_)
        refine lv_goto (tgt := 2) X.1 X.2.1 dX12_passYear_60 (by decide) ?_
        exact ih _ _ _ _ _ I (lv_sub hl [1, 0] rfl) ho (Nat.lt_of_lt_of_le (dec_c (by first | with_reducible rfl | simp [sp_n]) (up_dec c_1)) (Nat.le_of_lt_succ hm)) (hE.trans (rfl))
      · skip
        have hE := ite_t hE (b2i_y c_2)
        have ho := ite_tP ho (b2i_y c_2)
        refine lv_aload_n X.1 X.2.1 dX12_passYear_25 rfl (lv_at hl 0 rfl) ?_
        refine g12_27 X I (k := 123) (by decide) rfl lf_X12_58 dX12_passYear_26 ?_
        refine lv_iconst (v := 0) X.1 X.2.1 dX12_passYear_29 (by decide) ?_
        refine lv_iload_n X.1 X.2.1 dX12_passYear_30 rfl (lv_at hl 1 rfl) ?_
        refine lv_iadd X.1 X.2.1 dX12_passYear_31 ?_
        have ho4 := ho.1
        have ho := ho.2
        refine r_ald X I (k := 140) (n := 255) (by decide) rfl ho4 dX12_passYear_32 ?_
        refine lv_goto (tgt := 56) X.1 X.2.1 dX12_passYear_33 (by decide) ?_
        have ho5 := ho.1
        have ho := ho.2
        refine r_ast X I (k := 140) (n := 255) (by decide) rfl ho5 dX12_passYear_56 (fun H locs I => ?_)
        refine lv_iinc (v := _ + 1) (lv' := [(1, .int _), (0, .ref _)]) X.1 X.2.1 dX12_passYear_57 hl (k := 1) rfl rfl (by decide) rfl (fun ls hl => ?_)
        refine lv_goto (tgt := 2) X.1 X.2.1 dX12_passYear_60 (by decide) ?_
        exact ih _ _ _ _ _ I (lv_sub hl [1, 0] rfl) ho (Nat.lt_of_lt_of_le (dec_c (by first | with_reducible rfl | simp [sp_n]) (up_dec c_1)) (Nat.le_of_lt_succ hm)) (hE.trans (rfl))
set_option maxHeartbeats 4000000 in
set_option maxRecDepth 100000 in
theorem c12_passYear (l : Launch) (G : GT) (σ : SI) (τ : SL) (ho : o12_passYear σ) : Mc l yX12_passYear cX12_passYear 2 none 2 G [.ref (G.2.1 123)] σ τ (Qv G (Ev (f12_passYear σ) τ)) := by
  refine m_start (by decide +kernel) (Nat.le_of_ble_eq_true rfl) rfl (fun p e s m args below meth c ls X I hl => ?_)
  have hl : lv_has ls 2 [(0, .ref (G.2.1 123))] := hl
  obtain ⟨E, hE⟩ : ∃ E, E = (f12_passYear σ) := ⟨_, rfl⟩
  rw [← hE]
  unfold o12_passYear at ho
  refine lv_iconst (v := 0) X.1 X.2.1 dX12_passYear_0 (by decide) ?_
  refine lv_istore_n (lv' := [(1, .int _), (0, .ref _)]) X.1 X.2.1 dX12_passYear_1 rfl hl (by decide) rfl (fun ls hl => ?_)
  exact c12_passYear_c2 X _  _ _ _ _ _ _ I (lv_sub hl [1, 0] rfl) ho (fu1_lt _) (hE.trans (rfl))
