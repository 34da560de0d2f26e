noncomputable def f3_readsWorth (σ : SI) : Bool × SI := let r0 := (f7_takes σ (63 : Int32)); if r0.1 = true then (let s1 := (f1_add 8 r0.2 (-63 : Int32)); let r2 := (f3_sum s1 (0 : Int32)); r2) else (false, r0.2)
theorem w_f3_readsWorth (σ : SI) (a : Nat) (h0 : a ≠ 1) (h1 : a ≠ 8) (h2 : a ≠ 9) : (f3_readsWorth σ).2 a = σ a := by
  refine fp_to2 ?_
  unfold f3_readsWorth
  exact (fr_ite2 ((w_f3_sum _ _ a h0 h1 h2).trans ((w_f1_add _ _ a h2 h1).trans (w_f7_takes _ _ a h0))) (fr_mk21 (w_f7_takes _ _ a h0)))
set_option maxHeartbeats 4000000 in
set_option maxRecDepth 100000 in
theorem c3_readsWorth (l : Launch) (G : GT) (σ : SI) (τ : SL) : Mc l yX3_readsWorth cX3_readsWorth 1 (some .boolean) 32 G [.ref (G.2.1 7)] σ τ (Qi G (Ei (b2i (f3_readsWorth σ).1) (f3_readsWorth σ).2 τ)) := by
  refine m_start (by decide +kernel) (Nat.le_of_ble_eq_true rfl) rfl (fun p e s m args below meth c ls X I hl => ?_)
  have hl : lv_has ls 1 [(0, .ref (G.2.1 7))] := hl
  obtain ⟨E, hE⟩ : ∃ E, E = (f3_readsWorth σ) := ⟨_, rfl⟩
  rw [← hE]
  refine lv_aload_n X.1 X.2.1 dX3_readsWorth_0 rfl (lv_at hl 0 rfl) ?_
  refine g3_0 X I (k := 7) (by decide) rfl lf_X3_9 dX3_readsWorth_1 ?_
  refine lv_bipush (v := 63) X.1 X.2.1 dX3_readsWorth_4 (by decide) ?_
  refine r_ei I (r_runV X I pk_X7_takes (c7_takes l G _ _ _) lm_X3_42 (by decide) (cl_7 rfl) rfl rfl rfl hl.1 rfl (Nat.le_of_ble_eq_true rfl) dX3_readsWorth_6 ⟨Nat.le_of_ble_eq_true rfl, Nat.le_of_ble_eq_true rfl⟩ ⟨Nat.le_refl 0, Nat.le_refl 0⟩) (fun H locs I => ?_)
  refine lv_if_ne (tgt := 14) X.1 X.2.1 dX3_readsWorth_9 (by decide) (fun c_1 => ?_) (fun c_1 => ?_)
  · skip
    have hE := ite_t hE (b2i_y c_1)
    refine lv_aload_n X.1 X.2.1 dX3_readsWorth_14 rfl (lv_at hl 0 rfl) ?_
    refine g3_1 X I (k := 7) (by decide) rfl lf_X3_18 dX3_readsWorth_15 ?_
    refine lv_bipush (v := (-63)) X.1 X.2.1 dX3_readsWorth_18 (by decide) ?_
    refine r_ev I (r_runV X I pk_X1_add (c1_add l G (k := 8) ⟨by decide, rfl, rfl⟩ _ _ _) lm_X3_34 (by decide) (cl_1 rfl) rfl rfl rfl hl.1 rfl (Nat.le_of_ble_eq_true rfl) dX3_readsWorth_20 ⟨Nat.le_of_ble_eq_true rfl, Nat.le_of_ble_eq_true rfl⟩ ⟨Nat.le_refl 0, Nat.le_refl 0⟩) (fun H locs I => ?_)
    refine lv_aload_n X.1 X.2.1 dX3_readsWorth_23 rfl (lv_at hl 0 rfl) ?_
    refine lv_iconst (v := 0) X.1 X.2.1 dX3_readsWorth_24 (by decide) ?_
    refine r_ei I (r_runV X I pk_X3_readsSum (c3_sum l G _ _ _ (by decide)) lm_X3_56 (by decide) (cl_3 rfl) rfl rfl rfl hl.1 rfl (Nat.le_of_ble_eq_true rfl) dX3_readsWorth_25 ⟨Nat.le_of_ble_eq_true rfl, Nat.le_of_ble_eq_true rfl⟩ ⟨Nat.le_refl 0, Nat.le_refl 0⟩) (fun H locs I => ?_)
    have h9 := hE
    exact r_zret X I (b2i_nar _) (e_i (congrArg b2i (congrArg Prod.fst h9)).symm (congrArg Prod.snd h9).symm rfl) dX3_readsWorth_28
  · skip
    have hE := ite_f hE (b2i_n c_1)
    refine lv_iconst (v := 0) X.1 X.2.1 dX3_readsWorth_12 (by decide) ?_
    have h9 := hE
    exact r_zret X I rfl (e_i (congrArg b2i (pr_fst (a := false) h9)) (pr_snd h9) rfl) dX3_readsWorth_13
noncomputable def f3_readsClause (σ : SI) : Bool × SI := let r0 := (f7_takes σ (121 : Int32)); if r0.1 = true then (let r1 := (f7_takes r0.2 (58 : Int32)); if r1.1 = true then (let r2 := (f7_peek r1.2); if r2.1 = (33 : Int32) then (let r3 := (f3_cond r2.2 (0 : Int32) false); if r3.1 = true then (let r4 := (f3_readsWorth r3.2); if r4.1 = true then (true, r4.2) else (false, r4.2)) else (false, r3.2)) else (if r2.1 = (40 : Int32) then (let r10 := (f3_cond r2.2 (0 : Int32) false); if r10.1 = true then (let r11 := (f3_readsWorth r10.2); if r11.1 = true then (true, r11.2) else (false, r11.2)) else (false, r10.2)) else (let r5 := (f3_sum r2.2 (0 : Int32)); if r5.1 = true then (let r6 := (f7_peek r5.2); if (f3_isRelation r6.1) = true then (let r7 := (f3_readsRelation r6.2 (0 : Int32)); if r7.1 = true then (let r8 := (f3_cond r7.2 (0 : Int32) true); if r8.1 = true then (let r9 := (f3_readsWorth r8.2); if r9.1 = true then (true, r9.2) else (false, r9.2)) else (false, r8.2)) else (false, r7.2)) else (true, r6.2)) else (false, r5.2)))) else (false, r1.2)) else (false, r0.2)
theorem w_f3_readsClause (σ : SI) (a : Nat) (h0 : a ≠ 1) (h1 : a ≠ 8) (h2 : a ≠ 9) : (f3_readsClause σ).2 a = σ a := by
  refine fp_to2 ?_
  unfold f3_readsClause
  exact (fr_ite2 (fr_ite2 (fr_ite2 (fr_ite2 (fr_ite2 (fr_mk21 ((w_f3_readsWorth _ a h0 h1 h2).trans ((w_f3_cond _ _ _ a h0 h1 h2).trans ((w_f7_peek _ a h0).trans ((w_f7_takes _ _ a h0).trans (w_f7_takes _ _ a h0)))))) (fr_mk21 ((w_f3_readsWorth _ a h0 h1 h2).trans ((w_f3_cond _ _ _ a h0 h1 h2).trans ((w_f7_peek _ a h0).trans ((w_f7_takes _ _ a h0).trans (w_f7_takes _ _ a h0))))))) (fr_mk21 ((w_f3_cond _ _ _ a h0 h1 h2).trans ((w_f7_peek _ a h0).trans ((w_f7_takes _ _ a h0).trans (w_f7_takes _ _ a h0)))))) (fr_ite2 (fr_ite2 (fr_ite2 (fr_mk21 ((w_f3_readsWorth _ a h0 h1 h2).trans ((w_f3_cond _ _ _ a h0 h1 h2).trans ((w_f7_peek _ a h0).trans ((w_f7_takes _ _ a h0).trans (w_f7_takes _ _ a h0)))))) (fr_mk21 ((w_f3_readsWorth _ a h0 h1 h2).trans ((w_f3_cond _ _ _ a h0 h1 h2).trans ((w_f7_peek _ a h0).trans ((w_f7_takes _ _ a h0).trans (w_f7_takes _ _ a h0))))))) (fr_mk21 ((w_f3_cond _ _ _ a h0 h1 h2).trans ((w_f7_peek _ a h0).trans ((w_f7_takes _ _ a h0).trans (w_f7_takes _ _ a h0)))))) (fr_ite2 (fr_ite2 (fr_ite2 (fr_ite2 (fr_ite2 (fr_mk21 ((w_f3_readsWorth _ a h0 h1 h2).trans ((w_f3_cond _ _ _ a h0 h1 h2).trans ((w_f3_readsRelation _ _ a h0 h1 h2).trans ((w_f7_peek _ a h0).trans ((w_f3_sum _ _ a h0 h1 h2).trans ((w_f7_peek _ a h0).trans ((w_f7_takes _ _ a h0).trans (w_f7_takes _ _ a h0))))))))) (fr_mk21 ((w_f3_readsWorth _ a h0 h1 h2).trans ((w_f3_cond _ _ _ a h0 h1 h2).trans ((w_f3_readsRelation _ _ a h0 h1 h2).trans ((w_f7_peek _ a h0).trans ((w_f3_sum _ _ a h0 h1 h2).trans ((w_f7_peek _ a h0).trans ((w_f7_takes _ _ a h0).trans (w_f7_takes _ _ a h0)))))))))) (fr_mk21 ((w_f3_cond _ _ _ a h0 h1 h2).trans ((w_f3_readsRelation _ _ a h0 h1 h2).trans ((w_f7_peek _ a h0).trans ((w_f3_sum _ _ a h0 h1 h2).trans ((w_f7_peek _ a h0).trans ((w_f7_takes _ _ a h0).trans (w_f7_takes _ _ a h0))))))))) (fr_mk21 ((w_f3_readsRelation _ _ a h0 h1 h2).trans ((w_f7_peek _ a h0).trans ((w_f3_sum _ _ a h0 h1 h2).trans ((w_f7_peek _ a h0).trans ((w_f7_takes _ _ a h0).trans (w_f7_takes _ _ a h0)))))))) (fr_mk21 ((w_f7_peek _ a h0).trans ((w_f3_sum _ _ a h0 h1 h2).trans ((w_f7_peek _ a h0).trans ((w_f7_takes _ _ a h0).trans (w_f7_takes _ _ a h0))))))) (fr_mk21 ((w_f3_sum _ _ a h0 h1 h2).trans ((w_f7_peek _ a h0).trans ((w_f7_takes _ _ a h0).trans (w_f7_takes _ _ a h0)))))))) (fr_mk21 ((w_f7_takes _ _ a h0).trans (w_f7_takes _ _ a h0)))) (fr_mk21 (w_f7_takes _ _ a h0)))
set_option maxHeartbeats 4000000 in
set_option maxRecDepth 100000 in
theorem c3_readsClause (l : Launch) (G : GT) (σ : SI) (τ : SL) : Mc l yX3_readsClause cX3_readsClause 2 (some .boolean) 65 G [.ref (G.2.1 7)] σ τ (Qi G (Ei (b2i (f3_readsClause σ).1) (f3_readsClause σ).2 τ)) := by
  refine m_start (by decide +kernel) (Nat.le_of_ble_eq_true rfl) rfl (fun p e s m args below meth c ls X I hl => ?_)
  have hl : lv_has ls 2 [(0, .ref (G.2.1 7))] := hl
  obtain ⟨E, hE⟩ : ∃ E, E = (f3_readsClause σ) := ⟨_, rfl⟩
  rw [← hE]
  refine lv_aload_n X.1 X.2.1 dX3_readsClause_0 rfl (lv_at hl 0 rfl) ?_
  refine g3_0 X I (k := 7) (by decide) rfl lf_X3_9 dX3_readsClause_1 ?_
  refine lv_bipush (v := 121) X.1 X.2.1 dX3_readsClause_4 (by decide) ?_
  refine r_ei I (r_runV X I pk_X7_takes (c7_takes l G _ _ _) lm_X3_42 (by decide) (cl_7 rfl) rfl rfl rfl hl.1 rfl (Nat.le_of_ble_eq_true rfl) dX3_readsClause_6 ⟨Nat.le_of_ble_eq_true rfl, Nat.le_of_ble_eq_true rfl⟩ ⟨Nat.le_refl 0, Nat.le_refl 0⟩) (fun H locs I => ?_)
  refine lv_if_eq (tgt := 24) X.1 X.2.1 dX3_readsClause_9 (by decide) (fun c_1 => ?_) (fun c_1 => ?_)
  · skip
    have hE := ite_f hE (b2i_n c_1)
    refine lv_iconst (v := 0) X.1 X.2.1 dX3_readsClause_24 (by decide) ?_
    have h9 := hE
    exact r_zret X I rfl (e_i (congrArg b2i (pr_fst (a := false) h9)) (pr_snd h9) rfl) dX3_readsClause_25
  · skip
    have hE := ite_t hE (b2i_y c_1)
    refine lv_aload_n X.1 X.2.1 dX3_readsClause_12 rfl (lv_at hl 0 rfl) ?_
    refine g3_0 X I (k := 7) (by decide) rfl lf_X3_9 dX3_readsClause_13 ?_
    refine lv_bipush (v := 58) X.1 X.2.1 dX3_readsClause_16 (by decide) ?_
    refine r_ei I (r_runV X I pk_X7_takes (c7_takes l G _ _ _) lm_X3_42 (by decide) (cl_7 rfl) rfl rfl rfl hl.1 rfl (Nat.le_of_ble_eq_true rfl) dX3_readsClause_18 ⟨Nat.le_of_ble_eq_true rfl, Nat.le_of_ble_eq_true rfl⟩ ⟨Nat.le_refl 0, Nat.le_refl 0⟩) (fun H locs I => ?_)
    refine lv_if_ne (tgt := 26) X.1 X.2.1 dX3_readsClause_21 (by decide) (fun c_2 => ?_) (fun c_2 => ?_)
    · skip
      have hE := ite_t hE (b2i_y c_2)
      refine lv_aload_n X.1 X.2.1 dX3_readsClause_26 rfl (lv_at hl 0 rfl) ?_
      refine g3_0 X I (k := 7) (by decide) rfl lf_X3_9 dX3_readsClause_27 ?_
      refine r_ei I (r_runV X I pk_X7_peek (c7_peek l G _ _) lm_X3_38 (by decide) (cl_7 rfl) rfl rfl rfl hl.1 rfl (Nat.le_of_ble_eq_true rfl) dX3_readsClause_30 ⟨Nat.le_of_ble_eq_true rfl, Nat.le_of_ble_eq_true rfl⟩ ⟨Nat.le_refl 0, Nat.le_refl 0⟩) (fun H locs I => ?_)
      refine lv_istore_n (lv' := [(1, .int _), (0, .ref _)]) X.1 X.2.1 dX3_readsClause_33 rfl hl (by decide) rfl (fun ls hl => ?_)
      refine lv_iload_n X.1 X.2.1 dX3_readsClause_34 rfl (lv_at hl 0 rfl) ?_
      refine lv_bipush (v := 33) X.1 X.2.1 dX3_readsClause_35 (by decide) ?_
      refine lv_icmp_eq (tgt := 46) X.1 X.2.1 dX3_readsClause_37 (by decide) (fun c_3 => ?_) (fun c_3 => ?_)
      · skip
        have hE := ite_t hE c_3
        refine lv_aload_n X.1 X.2.1 dX3_readsClause_46 rfl (lv_at hl 1 rfl) ?_
        refine lv_iconst (v := 0) X.1 X.2.1 dX3_readsClause_47 (by decide) ?_
        refine lv_iconst (v := 0) X.1 X.2.1 dX3_readsClause_48 (by decide) ?_
        refine r_ei I (r_runV X I pk_X3_readsCondition (c3_cond l G _ _ _ false (by decide)) lm_X3_49 (by decide) (cl_3 rfl) rfl rfl rfl hl.1 rfl (Nat.le_of_ble_eq_true rfl) dX3_readsClause_49 ⟨Nat.le_of_ble_eq_true rfl, Nat.le_of_ble_eq_true rfl⟩ ⟨Nat.le_refl 0, Nat.le_refl 0⟩) (fun H locs I => ?_)
        refine lv_if_eq (tgt := 66) X.1 X.2.1 dX3_readsClause_52 (by decide) (fun c_4 => ?_) (fun c_4 => ?_)
        · skip
          have hE := ite_f hE (b2i_n c_4)
          refine lv_iconst (v := 0) X.1 X.2.1 dX3_readsClause_66 (by decide) ?_
          have h9 := hE
          exact r_zret X I rfl (e_i (congrArg b2i (pr_fst (a := false) h9)) (pr_snd h9) rfl) dX3_readsClause_67
        · skip
          have hE := ite_t hE (b2i_y c_4)
          refine lv_aload_n X.1 X.2.1 dX3_readsClause_55 rfl (lv_at hl 1 rfl) ?_
          refine r_ei I (r_runV X I pk_X3_readsWorth (c3_readsWorth l G _ _) lm_X3_53 (by decide) (cl_3 rfl) rfl rfl rfl hl.1 rfl (Nat.le_of_ble_eq_true rfl) dX3_readsClause_56 ⟨Nat.le_of_ble_eq_true rfl, Nat.le_of_ble_eq_true rfl⟩ ⟨Nat.le_refl 0, Nat.le_refl 0⟩) (fun H locs I => ?_)
          refine lv_if_eq (tgt := 66) X.1 X.2.1 dX3_readsClause_59 (by decide) (fun c_5 => ?_) (fun c_5 => ?_)
          · skip
            have hE := ite_f hE (b2i_n c_5)
            refine lv_iconst (v := 0) X.1 X.2.1 dX3_readsClause_66 (by decide) ?_
            have h9 := hE
            exact r_zret X I rfl (e_i (congrArg b2i (pr_fst (a := false) h9)) (pr_snd h9) rfl) dX3_readsClause_67
          · skip
            have hE := ite_t hE (b2i_y c_5)
            refine lv_iconst (v := 1) X.1 X.2.1 dX3_readsClause_62 (by decide) ?_
            refine lv_goto (tgt := 67) X.1 X.2.1 dX3_readsClause_63 (by decide) ?_
            have h9 := hE
            exact r_zret X I rfl (e_i (congrArg b2i (pr_fst (a := true) h9)) (pr_snd h9) rfl) dX3_readsClause_67
      · skip
        have hE := ite_f hE c_3
        refine lv_iload_n X.1 X.2.1 dX3_readsClause_40 rfl (lv_at hl 0 rfl) ?_
        refine lv_bipush (v := 40) X.1 X.2.1 dX3_readsClause_41 (by decide) ?_
        refine lv_icmp_ne (tgt := 68) X.1 X.2.1 dX3_readsClause_43 (by decide) (fun c_6 => ?_) (fun c_6 => ?_)
        · skip
          have hE := ite_f hE c_6
          refine lv_aload_n X.1 X.2.1 dX3_readsClause_68 rfl (lv_at hl 1 rfl) ?_
          refine lv_iconst (v := 0) X.1 X.2.1 dX3_readsClause_69 (by decide) ?_
          refine r_ei I (r_runV X I pk_X3_readsSum (c3_sum l G _ _ _ (by decide)) lm_X3_56 (by decide) (cl_3 rfl) rfl rfl rfl hl.1 rfl (Nat.le_of_ble_eq_true rfl) dX3_readsClause_70 ⟨Nat.le_of_ble_eq_true rfl, Nat.le_of_ble_eq_true rfl⟩ ⟨Nat.le_refl 0, Nat.le_refl 0⟩) (fun H locs I => ?_)
          refine lv_if_ne (tgt := 78) X.1 X.2.1 dX3_readsClause_73 (by decide) (fun c_7 => ?_) (fun c_7 => ?_)
          · skip
            have hE := ite_t hE (b2i_y c_7)
            refine lv_aload_n X.1 X.2.1 dX3_readsClause_78 rfl (lv_at hl 1 rfl) ?_
            refine g3_0 X I (k := 7) (by decide) rfl lf_X3_9 dX3_readsClause_79 ?_
            refine r_ei I (r_runV X I pk_X7_peek (c7_peek l G _ _) lm_X3_38 (by decide) (cl_7 rfl) rfl rfl rfl hl.1 rfl (Nat.le_of_ble_eq_true rfl) dX3_readsClause_82 ⟨Nat.le_of_ble_eq_true rfl, Nat.le_of_ble_eq_true rfl⟩ ⟨Nat.le_refl 0, Nat.le_refl 0⟩) (fun H locs I => ?_)
            refine r_ei I (r_runS X I pk_X3_isRelation (c3_isRelation l G _ _ _) lm_X3_59 rfl hl.1 rfl (Nat.le_of_ble_eq_true rfl) dX3_readsClause_85 ⟨Nat.le_of_ble_eq_true rfl, Nat.le_of_ble_eq_true rfl⟩ ⟨Nat.le_refl 0, Nat.le_refl 0⟩) (fun H locs I => ?_)
            refine lv_if_ne (tgt := 93) X.1 X.2.1 dX3_readsClause_88 (by decide) (fun c_8 => ?_) (fun c_8 => ?_)
            · skip
              have hE := ite_t hE (b2i_y c_8)
              refine lv_aload_n X.1 X.2.1 dX3_readsClause_93 rfl (lv_at hl 1 rfl) ?_
              refine lv_iconst (v := 0) X.1 X.2.1 dX3_readsClause_94 (by decide) ?_
              refine r_ei I (r_runV X I pk_X3_readsRelation (c3_readsRelation l G _ _ _ (by decide)) lm_X3_62 (by decide) (cl_3 rfl) rfl rfl rfl hl.1 rfl (Nat.le_of_ble_eq_true rfl) dX3_readsClause_95 ⟨Nat.le_of_ble_eq_true rfl, Nat.le_of_ble_eq_true rfl⟩ ⟨Nat.le_refl 0, Nat.le_refl 0⟩) (fun H locs I => ?_)
              refine lv_if_eq (tgt := 121) X.1 X.2.1 dX3_readsClause_98 (by decide) (fun c_9 => ?_) (fun c_9 => ?_)
              · skip
                have hE := ite_f hE (b2i_n c_9)
                refine lv_iconst (v := 0) X.1 X.2.1 dX3_readsClause_121 (by decide) ?_
                have h9 := hE
                exact r_zret X I rfl (e_i (congrArg b2i (pr_fst (a := false) h9)) (pr_snd h9) rfl) dX3_readsClause_122
              · skip
                have hE := ite_t hE (b2i_y c_9)
                refine lv_aload_n X.1 X.2.1 dX3_readsClause_101 rfl (lv_at hl 1 rfl) ?_
                refine lv_iconst (v := 0) X.1 X.2.1 dX3_readsClause_102 (by decide) ?_
                refine lv_iconst (v := 1) X.1 X.2.1 dX3_readsClause_103 (by decide) ?_
                refine r_ei I (r_runV X I pk_X3_readsCondition (c3_cond l G _ _ _ true (by decide)) lm_X3_49 (by decide) (cl_3 rfl) rfl rfl rfl hl.1 rfl (Nat.le_of_ble_eq_true rfl) dX3_readsClause_104 ⟨Nat.le_of_ble_eq_true rfl, Nat.le_of_ble_eq_true rfl⟩ ⟨Nat.le_refl 0, Nat.le_refl 0⟩) (fun H locs I => ?_)
                refine lv_if_eq (tgt := 121) X.1 X.2.1 dX3_readsClause_107 (by decide) (fun c_10 => ?_) (fun c_10 => ?_)
                · skip
                  have hE := ite_f hE (b2i_n c_10)
                  refine lv_iconst (v := 0) X.1 X.2.1 dX3_readsClause_121 (by decide) ?_
                  have h9 := hE
                  exact r_zret X I rfl (e_i (congrArg b2i (pr_fst (a := false) h9)) (pr_snd h9) rfl) dX3_readsClause_122
                · skip
                  have hE := ite_t hE (b2i_y c_10)
                  refine lv_aload_n X.1 X.2.1 dX3_readsClause_110 rfl (lv_at hl 1 rfl) ?_
                  refine r_ei I (r_runV X I pk_X3_readsWorth (c3_readsWorth l G _ _) lm_X3_53 (by decide) (cl_3 rfl) rfl rfl rfl hl.1 rfl (Nat.le_of_ble_eq_true rfl) dX3_readsClause_111 ⟨Nat.le_of_ble_eq_true rfl, Nat.le_of_ble_eq_true rfl⟩ ⟨Nat.le_refl 0, Nat.le_refl 0⟩) (fun H locs I => ?_)
                  refine lv_if_eq (tgt := 121) X.1 X.2.1 dX3_readsClause_114 (by decide) (fun c_11 => ?_) (fun c_11 => ?_)
                  · skip
                    have hE := ite_f hE (b2i_n c_11)
                    refine lv_iconst (v := 0) X.1 X.2.1 dX3_readsClause_121 (by decide) ?_
                    have h9 := hE
                    exact r_zret X I rfl (e_i (congrArg b2i (pr_fst (a := false) h9)) (pr_snd h9) rfl) dX3_readsClause_122
                  · skip
                    have hE := ite_t hE (b2i_y c_11)
                    refine lv_iconst (v := 1) X.1 X.2.1 dX3_readsClause_117 (by decide) ?_
                    refine lv_goto (tgt := 122) X.1 X.2.1 dX3_readsClause_118 (by decide) ?_
                    have h9 := hE
                    exact r_zret X I rfl (e_i (congrArg b2i (pr_fst (a := true) h9)) (pr_snd h9) rfl) dX3_readsClause_122
            · skip
              have hE := ite_f hE (b2i_n c_8)
              refine lv_iconst (v := 1) X.1 X.2.1 dX3_readsClause_91 (by decide) ?_
              have h9 := hE
              exact r_zret X I rfl (e_i (congrArg b2i (pr_fst (a := true) h9)) (pr_snd h9) rfl) dX3_readsClause_92
          · skip
            have hE := ite_f hE (b2i_n c_7)
            refine lv_iconst (v := 0) X.1 X.2.1 dX3_readsClause_76 (by decide) ?_
            have h9 := hE
            exact r_zret X I rfl (e_i (congrArg b2i (pr_fst (a := false) h9)) (pr_snd h9) rfl) dX3_readsClause_77
        · skip
          have hE := ite_t hE c_6
          refine lv_aload_n X.1 X.2.1 dX3_readsClause_46 rfl (lv_at hl 1 rfl) ?_
          refine lv_iconst (v := 0) X.1 X.2.1 dX3_readsClause_47 (by decide) ?_
          refine lv_iconst (v := 0) X.1 X.2.1 dX3_readsClause_48 (by decide) ?_
          refine r_ei I (r_runV X I pk_X3_readsCondition (c3_cond l G _ _ _ false (by decide)) lm_X3_49 (by decide) (cl_3 rfl) rfl rfl rfl hl.1 rfl (Nat.le_of_ble_eq_true rfl) dX3_readsClause_49 ⟨Nat.le_of_ble_eq_true rfl, Nat.le_of_ble_eq_true rfl⟩ ⟨Nat.le_refl 0, Nat.le_refl 0⟩) (fun H locs I => ?_)
          refine lv_if_eq (tgt := 66) X.1 X.2.1 dX3_readsClause_52 (by decide) (fun c_12 => ?_) (fun c_12 => ?_)
          · skip
            have hE := ite_f hE (b2i_n c_12)
            refine lv_iconst (v := 0) X.1 X.2.1 dX3_readsClause_66 (by decide) ?_
            have h9 := hE
            exact r_zret X I rfl (e_i (congrArg b2i (pr_fst (a := false) h9)) (pr_snd h9) rfl) dX3_readsClause_67
          · skip
            have hE := ite_t hE (b2i_y c_12)
            refine lv_aload_n X.1 X.2.1 dX3_readsClause_55 rfl (lv_at hl 1 rfl) ?_
            refine r_ei I (r_runV X I pk_X3_readsWorth (c3_readsWorth l G _ _) lm_X3_53 (by decide) (cl_3 rfl) rfl rfl rfl hl.1 rfl (Nat.le_of_ble_eq_true rfl) dX3_readsClause_56 ⟨Nat.le_of_ble_eq_true rfl, Nat.le_of_ble_eq_true rfl⟩ ⟨Nat.le_refl 0, Nat.le_refl 0⟩) (fun H locs I => ?_)
            refine lv_if_eq (tgt := 66) X.1 X.2.1 dX3_readsClause_59 (by decide) (fun c_13 => ?_) (fun c_13 => ?_)
            · skip
              have hE := ite_f hE (b2i_n c_13)
              refine lv_iconst (v := 0) X.1 X.2.1 dX3_readsClause_66 (by decide) ?_
              have h9 := hE
              exact r_zret X I rfl (e_i (congrArg b2i (pr_fst (a := false) h9)) (pr_snd h9) rfl) dX3_readsClause_67
            · skip
              have hE := ite_t hE (b2i_y c_13)
              refine lv_iconst (v := 1) X.1 X.2.1 dX3_readsClause_62 (by decide) ?_
              refine lv_goto (tgt := 67) X.1 X.2.1 dX3_readsClause_63 (by decide) ?_
              have h9 := hE
              exact r_zret X I rfl (e_i (congrArg b2i (pr_fst (a := true) h9)) (pr_snd h9) rfl) dX3_readsClause_67
    · skip
      have hE := ite_f hE (b2i_n c_2)
      refine lv_iconst (v := 0) X.1 X.2.1 dX3_readsClause_24 (by decide) ?_
      have h9 := hE
      exact r_zret X I rfl (e_i (congrArg b2i (pr_fst (a := false) h9)) (pr_snd h9) rfl) dX3_readsClause_25
noncomputable def f7_rewind (σ : SI) : SI := let s0 := sp σ 1 2 (0 : Int32); let s1 := sp s0 1 3 (-1 : Int32); s1
theorem w_f7_rewind (σ : SI) (a : Nat) (h0 : a ≠ 1) : (f7_rewind σ) a = σ a := by
  unfold f7_rewind
  exact ((sp_n h0).trans (sp_n h0))
set_option maxHeartbeats 4000000 in
set_option maxRecDepth 100000 in
theorem c7_rewind (l : Launch) (G : GT) (σ : SI) (τ : SL) : Mc l yX7_rewind cX7_rewind 1 none 0 G [.ref (G.2.1 1)] σ τ (Qv G (Ev (f7_rewind σ) τ)) := by
  refine m_start (by decide +kernel) (Nat.le_of_ble_eq_true rfl) rfl (fun p e s m args below meth c ls X I hl => ?_)
  have hl : lv_has ls 1 [(0, .ref (G.2.1 1))] := hl
  obtain ⟨E, hE⟩ : ∃ E, E = (f7_rewind σ) := ⟨_, rfl⟩
  rw [← hE]
  refine lv_aload_n X.1 X.2.1 dX7_rewind_0 rfl (lv_at hl 0 rfl) ?_
  refine lv_iconst (v := 0) X.1 X.2.1 dX7_rewind_1 (by decide) ?_
  refine p7_2 X I (k := 1) (by decide) rfl lf_X7_22 dX7_rewind_2 (fun H locs I => ?_)
  refine lv_aload_n X.1 X.2.1 dX7_rewind_5 rfl (lv_at hl 0 rfl) ?_
  refine lv_iconst (v := (-1)) X.1 X.2.1 dX7_rewind_6 (by decide) ?_
  refine p7_3 X I (k := 1) (by decide) rfl lf_X7_15 dX7_rewind_7 (fun H locs I => ?_)
  have h9 := hE
  exact r_vret X I (e_v h9.symm rfl) dX7_rewind_10
noncomputable def f3_reads_c16 : Nat → Int32 → SI → (Bool × SI)
  | 0, _, σ => (false, σ)
  | fu + 1, v1, σ => if (240 : Int32) ≤ v1 then (let r2 := (f7_fails σ); r2) else (let r3 := (f3_readsClause σ); if r3.1 = true then (let s4 := (f1_add 8 r3.2 (-59 : Int32)); let r5 := (f7_peek s4); if r5.1 = (-1 : Int32) then (true, r5.2) else (let r6 := (f7_takes r5.2 (59 : Int32)); if r6.1 = true then (f3_reads_c16 fu (v1 + 1) r6.2) else (false, r6.2))) else (false, r3.2))
noncomputable def f3_reads (σ : SI) : Bool × SI := let s0 := (f7_rewind σ); let s1 := (f1_clear 8 s0); (f3_reads_c16 (fu1 ((Int32.toInt (240 : Int32) - Int32.toInt (0 : Int32)).toNat)) (0 : Int32) s1)
theorem w_f3_reads_c16 (a : Nat) (h0 : a ≠ 1) (h1 : a ≠ 8) (h2 : a ≠ 9) : ∀ (fu : Nat) (v1 : Int32) (σ : SI), (f3_reads_c16 fu v1 σ).2 a = σ a := by
  intro fu
  induction fu with
  | zero => intro v1 σ; exact rfl
  | succ fu ih =>
    intro v1 σ
    refine fp_to2 ?_
    unfold f3_reads_c16
    exact (fr_ite2 (w_f7_fails _ a h0) (fr_ite2 (fr_ite2 (fr_mk21 ((w_f7_peek _ a h0).trans ((w_f1_add _ _ a h2 h1).trans (w_f3_readsClause _ a h0 h1 h2)))) (fr_ite2 (fp_of2 (((ih _ _).trans ((w_f7_takes _ _ a h0).trans ((w_f7_peek _ a h0).trans ((w_f1_add _ _ a h2 h1).trans (w_f3_readsClause _ a h0 h1 h2))))))) (fr_mk21 ((w_f7_takes _ _ a h0).trans ((w_f7_peek _ a h0).trans ((w_f1_add _ _ a h2 h1).trans (w_f3_readsClause _ a h0 h1 h2))))))) (fr_mk21 (w_f3_readsClause _ a h0 h1 h2))))
theorem w_f3_reads (σ : SI) (a : Nat) (h0 : a ≠ 1) (h1 : a ≠ 8) (h2 : a ≠ 9) : (f3_reads σ).2 a = σ a := by
  refine fp_to2 ?_
  unfold f3_reads
  exact (fp_of2 (((w_f3_reads_c16 a h0 h1 h2 _ _ _).trans ((w_f1_clear _ a h1).trans (w_f7_rewind _ a h0)))))
set_option maxHeartbeats 4000000 in
set_option maxRecDepth 100000 in
theorem c3_reads_c16 {l : Launch} {p : Program} {e : Env} {s : State} {m : MethodId} {args : Array Value} {below : List Frame} {meth : Method} {c : Code} {G : GT} (X : CX p s m args meth c cX3_reads RX3 2 (some .boolean) G) {E : Bool × SI} (τ : SL) : ∀ (fu : Nat) (v1 : Int32) (σ : SI) (H : Heap) (locs : List Loc) (ls : Array Slot), IX G s H locs σ τ → lv_has ls 2 [(0, .ref (G.2.1 7)), (1, .int v1)] → (Int32.toInt (240 : Int32) - Int32.toInt v1).toNat < fu → E = (f3_reads_c16 fu v1 σ) → W p l e (rmN 66) s m args below meth c H locs 0 0 (MQ below ((Qi G (Ei (b2i E.1) E.2 τ)) s.heap.size) args s 0 0 (AW G s.heap.size)) (F0 m 16 ls []) := by
  intro fu
  induction fu with
  | zero =>
    intro v1 σ H locs ls I hl  hm hE
    exact absurd hm (Nat.not_lt_zero _)
  | succ fu ih =>
    intro v1 σ H locs ls I hl  hm hE
    refine lv_iload_n X.1 X.2.1 dX3_reads_16 rfl (lv_at hl 1 rfl) ?_
    refine lv_sipush (v := 240) X.1 X.2.1 dX3_reads_17 (by decide) ?_
    refine lv_icmp_ge (tgt := 74) X.1 X.2.1 dX3_reads_20 (by decide) (fun c_1 => ?_) (fun c_1 => ?_)
    · skip
      have hE := ite_t hE c_1
      refine lv_aload_n X.1 X.2.1 dX3_reads_74 rfl (lv_at hl 0 rfl) ?_
      refine g3_0 X I (k := 7) (by decide) rfl lf_X3_9 dX3_reads_75 ?_
      refine r_ei I (r_runV X I pk_X7_fails (c7_fails l G _ _) lm_X3_46 (by decide) (cl_7 rfl) rfl rfl rfl hl.1 rfl (Nat.le_of_ble_eq_true rfl) dX3_reads_78 ⟨Nat.le_of_ble_eq_true rfl, Nat.le_of_ble_eq_true rfl⟩ ⟨Nat.le_refl 0, Nat.le_refl 0⟩) (fun H locs I => ?_)
      have h9 := hE
      exact r_zret X I (b2i_nar _) (e_i (congrArg b2i (congrArg Prod.fst h9)).symm (congrArg Prod.snd h9).symm rfl) dX3_reads_81
    · skip
      have hE := ite_f hE c_1
      refine lv_aload_n X.1 X.2.1 dX3_reads_23 rfl (lv_at hl 0 rfl) ?_
      refine r_ei I (r_runV X I pk_X3_readsClause (c3_readsClause l G _ _) lm_X3_30 (by decide) (cl_3 rfl) rfl rfl rfl hl.1 rfl (Nat.le_of_ble_eq_true rfl) dX3_reads_24 ⟨Nat.le_of_ble_eq_true rfl, Nat.le_of_ble_eq_true rfl⟩ ⟨Nat.le_refl 0, Nat.le_refl 0⟩) (fun H locs I => ?_)
      refine lv_if_ne (tgt := 32) X.1 X.2.1 dX3_reads_27 (by decide) (fun c_2 => ?_) (fun c_2 => ?_)
      · skip
        have hE := ite_t hE (b2i_y c_2)
        refine lv_aload_n X.1 X.2.1 dX3_reads_32 rfl (lv_at hl 0 rfl) ?_
        refine g3_1 X I (k := 7) (by decide) rfl lf_X3_18 dX3_reads_33 ?_
        refine lv_bipush (v := (-59)) X.1 X.2.1 dX3_reads_36 (by decide) ?_
        refine r_ev I (r_runV X I pk_X1_add (c1_add l G (k := 8) ⟨by decide, rfl, rfl⟩ _ _ _) lm_X3_34 (by decide) (cl_1 rfl) rfl rfl rfl hl.1 rfl (Nat.le_of_ble_eq_true rfl) dX3_reads_38 ⟨Nat.le_of_ble_eq_true rfl, Nat.le_of_ble_eq_true rfl⟩ ⟨Nat.le_refl 0, Nat.le_refl 0⟩) (fun H locs I => ?_)
        refine lv_aload_n X.1 X.2.1 dX3_reads_41 rfl (lv_at hl 0 rfl) ?_
        refine g3_0 X I (k := 7) (by decide) rfl lf_X3_9 dX3_reads_42 ?_
        refine r_ei I (r_runV X I pk_X7_peek (c7_peek l G _ _) lm_X3_38 (by decide) (cl_7 rfl) rfl rfl rfl hl.1 rfl (Nat.le_of_ble_eq_true rfl) dX3_reads_45 ⟨Nat.le_of_ble_eq_true rfl, Nat.le_of_ble_eq_true rfl⟩ ⟨Nat.le_refl 0, Nat.le_refl 0⟩) (fun H locs I => ?_)
        refine lv_iconst (v := (-1)) X.1 X.2.1 dX3_reads_48 (by decide) ?_
        refine lv_icmp_ne (tgt := 54) X.1 X.2.1 dX3_reads_49 (by decide) (fun c_3 => ?_) (fun c_3 => ?_)
        · skip
          have hE := ite_f hE c_3
          refine lv_aload_n X.1 X.2.1 dX3_reads_54 rfl (lv_at hl 0 rfl) ?_
          refine g3_0 X I (k := 7) (by decide) rfl lf_X3_9 dX3_reads_55 ?_
          refine lv_bipush (v := 59) X.1 X.2.1 dX3_reads_58 (by decide) ?_
          refine r_ei I (r_runV X I pk_X7_takes (c7_takes l G _ _ _) lm_X3_42 (by decide) (cl_7 rfl) rfl rfl rfl hl.1 rfl (Nat.le_of_ble_eq_true rfl) dX3_reads_60 ⟨Nat.le_of_ble_eq_true rfl, Nat.le_of_ble_eq_true rfl⟩ ⟨Nat.le_refl 0, Nat.le_refl 0⟩) (fun H locs I => ?_)
          refine lv_if_ne (tgt := 68) X.1 X.2.1 dX3_reads_63 (by decide) (fun c_4 => ?_) (fun c_4 => ?_)
          · skip
            have hE := ite_t hE (b2i_y c_4)
            refine lv_iinc (v := _ + 1) (lv' := [(1, .int _), (0, .ref _)]) X.1 X.2.1 dX3_reads_68 hl (k := 1) rfl rfl (by decide) rfl (fun ls hl => ?_)
            refine lv_goto (tgt := 16) X.1 X.2.1 dX3_reads_71 (by decide) ?_
            exact ih _ _ _ _ _ I (lv_sub hl [1, 0] rfl) (Nat.lt_of_lt_of_le (up_dec c_1) (Nat.le_of_lt_succ hm)) (hE.trans (rfl))
          · skip
            have hE := ite_f hE (b2i_n c_4)
            refine lv_iconst (v := 0) X.1 X.2.1 dX3_reads_66 (by decide) ?_
            have h9 := hE
            exact r_zret X I rfl (e_i (congrArg b2i (pr_fst (a := false) h9)) (pr_snd h9) rfl) dX3_reads_67
        · skip
          have hE := ite_t hE c_3
          refine lv_iconst (v := 1) X.1 X.2.1 dX3_reads_52 (by decide) ?_
          have h9 := hE
          exact r_zret X I rfl (e_i (congrArg b2i (pr_fst (a := true) h9)) (pr_snd h9) rfl) dX3_reads_53
      · skip
        have hE := ite_f hE (b2i_n c_2)
        refine lv_iconst (v := 0) X.1 X.2.1 dX3_reads_30 (by decide) ?_
        have h9 := hE
        exact r_zret X I rfl (e_i (congrArg b2i (pr_fst (a := false) h9)) (pr_snd h9) rfl) dX3_reads_31
set_option maxHeartbeats 4000000 in
set_option maxRecDepth 100000 in
theorem c3_reads (l : Launch) (G : GT) (σ : SI) (τ : SL) : Mc l yX3_reads cX3_reads 2 (some .boolean) 66 G [.ref (G.2.1 7)] σ τ (Qi G (Ei (b2i (f3_reads σ).1) (f3_reads σ).2 τ)) := by
  refine m_start (by decide +kernel) (Nat.le_of_ble_eq_true rfl) rfl (fun p e s m args below meth c ls X I hl => ?_)
  have hl : lv_has ls 2 [(0, .ref (G.2.1 7))] := hl
  obtain ⟨E, hE⟩ : ∃ E, E = (f3_reads σ) := ⟨_, rfl⟩
  rw [← hE]
  refine lv_aload_n X.1 X.2.1 dX3_reads_0 rfl (lv_at hl 0 rfl) ?_
  refine g3_0 X I (k := 7) (by decide) rfl lf_X3_9 dX3_reads_1 ?_
  refine r_ev I (r_runV X I pk_X7_rewind (c7_rewind l G _ _) lm_X3_22 (by decide) (cl_7 rfl) rfl rfl rfl hl.1 rfl (Nat.le_of_ble_eq_true rfl) dX3_reads_4 ⟨Nat.le_of_ble_eq_true rfl, Nat.le_of_ble_eq_true rfl⟩ ⟨Nat.le_refl 0, Nat.le_refl 0⟩) (fun H locs I => ?_)
  refine lv_aload_n X.1 X.2.1 dX3_reads_7 rfl (lv_at hl 0 rfl) ?_
  refine g3_1 X I (k := 7) (by decide) rfl lf_X3_18 dX3_reads_8 ?_
  refine r_ev I (r_runV X I pk_X1_clear (c1_clear l G (k := 8) ⟨by decide, rfl, rfl⟩ _ _) lm_X3_27 (by decide) (cl_1 rfl) rfl rfl rfl hl.1 rfl (Nat.le_of_ble_eq_true rfl) dX3_reads_11 ⟨Nat.le_of_ble_eq_true rfl, Nat.le_of_ble_eq_true rfl⟩ ⟨Nat.le_refl 0, Nat.le_refl 0⟩) (fun H locs I => ?_)
  refine lv_iconst (v := 0) X.1 X.2.1 dX3_reads_14 (by decide) ?_
  refine lv_istore_n (lv' := [(1, .int _), (0, .ref _)]) X.1 X.2.1 dX3_reads_15 rfl hl (by decide) rfl (fun ls hl => ?_)
  exact c3_reads_c16 X _  _ _ _ _ _ _ I (lv_sub hl [1, 0] rfl) (fu1_lt _) (hE.trans (rfl))
