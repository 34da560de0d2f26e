noncomputable def f3_readsRelation (σ : SI) (x1 : Int32) : Bool × SI := let r0 := (f7_peek σ); if (f3_isRelation r0.1) = true then (let s1 := (f7_pass r0.2); let r2 := (f3_sum s1 x1); if r2.1 = true then (let s3 := (f1_add 8 r2.2 (-r0.1)); (true, s3)) else (false, r2.2)) else (let r4 := (f7_fails r0.2); r4)
theorem w_f3_readsRelation (σ : SI) (x1 : Int32) (a : Nat) (h0 : a ≠ 1) (h1 : a ≠ 8) (h2 : a ≠ 9) : (f3_readsRelation σ x1).2 a = σ a := by
  refine fp_to2 ?_
  unfold f3_readsRelation
  exact (fr_ite2 (fr_ite2 (fr_mk21 ((w_f1_add _ _ a h2 h1).trans ((w_f3_sum _ _ a h0 h1 h2).trans ((w_f7_pass _ a h0).trans (w_f7_peek _ a h0))))) (fr_mk21 ((w_f3_sum _ _ a h0 h1 h2).trans ((w_f7_pass _ a h0).trans (w_f7_peek _ a h0))))) ((w_f7_fails _ a h0).trans (w_f7_peek _ a h0)))
set_option maxHeartbeats 4000000 in
set_option maxRecDepth 100000 in
theorem c3_readsRelation (l : Launch) (G : GT) (σ : SI) (τ : SL) (x1 : Int32) (hx0 : ¬ x1 < 0) : Mc l yX3_readsRelation cX3_readsRelation 3 (some .boolean) 32 G [.ref (G.2.1 7), .int x1] σ τ (Qi G (Ei (b2i (f3_readsRelation σ x1).1) (f3_readsRelation σ x1).2 τ)) := by
  refine m_start (by decide +kernel) (Nat.le_of_ble_eq_true rfl) rfl (fun p e s m args below meth c ls X I hl => ?_)
  have hl : lv_has ls 3 [(0, .ref (G.2.1 7)), (1, .int x1)] := hl
  obtain ⟨E, hE⟩ : ∃ E, E = (f3_readsRelation σ x1) := ⟨_, rfl⟩
  rw [← hE]
  refine lv_aload_n X.1 X.2.1 dX3_readsRelation_0 rfl (lv_at hl 0 rfl) ?_
  refine g3_0 X I (k := 7) (by decide) rfl lf_X3_9 dX3_readsRelation_1 ?_
  refine r_ei I (r_runV X I pk_X7_peek (c7_peek l G _ _) lm_X3_38 (by decide) (cl_7 rfl) rfl rfl rfl hl.1 rfl (Nat.le_of_ble_eq_true rfl) dX3_readsRelation_4 ⟨Nat.le_of_ble_eq_true rfl, Nat.le_of_ble_eq_true rfl⟩ ⟨Nat.le_refl 0, Nat.le_refl 0⟩) (fun H locs I => ?_)
  refine lv_istore_n (lv' := [(2, .int _), (0, .ref _), (1, .int _)]) X.1 X.2.1 dX3_readsRelation_7 rfl hl (by decide) rfl (fun ls hl => ?_)
  refine lv_iload_n X.1 X.2.1 dX3_readsRelation_8 rfl (lv_at hl 0 rfl) ?_
  refine r_ei I (r_runS X I pk_X3_isRelation (c3_isRelation l G _ _ _) lm_X3_59 rfl hl.1 rfl (Nat.le_of_ble_eq_true rfl) dX3_readsRelation_9 ⟨Nat.le_of_ble_eq_true rfl, Nat.le_of_ble_eq_true rfl⟩ ⟨Nat.le_refl 0, Nat.le_refl 0⟩) (fun H locs I => ?_)
  refine lv_if_ne (tgt := 23) X.1 X.2.1 dX3_readsRelation_12 (by decide) (fun c_1 => ?_) (fun c_1 => ?_)
  · skip
    have hE := ite_t hE (b2i_y c_1)
    refine lv_aload_n X.1 X.2.1 dX3_readsRelation_23 rfl (lv_at hl 1 rfl) ?_
    refine g3_0 X I (k := 7) (by decide) rfl lf_X3_9 dX3_readsRelation_24 ?_
    refine r_ev I (r_runV X I pk_X7_pass (c7_pass l G _ _) lm_X3_68 (by decide) (cl_7 rfl) rfl rfl rfl hl.1 rfl (Nat.le_of_ble_eq_true rfl) dX3_readsRelation_27 ⟨Nat.le_of_ble_eq_true rfl, Nat.le_of_ble_eq_true rfl⟩ ⟨Nat.le_refl 0, Nat.le_refl 0⟩) (fun H locs I => ?_)
    refine lv_aload_n X.1 X.2.1 dX3_readsRelation_30 rfl (lv_at hl 1 rfl) ?_
    refine lv_iload_n X.1 X.2.1 dX3_readsRelation_31 rfl (lv_at hl 2 rfl) ?_
    refine r_ei I (r_runV X I pk_X3_readsSum (c3_sum l G _ _ _ (hx0)) lm_X3_56 (by decide) (cl_3 rfl) rfl rfl rfl hl.1 rfl (Nat.le_of_ble_eq_true rfl) dX3_readsRelation_32 ⟨Nat.le_of_ble_eq_true rfl, Nat.le_of_ble_eq_true rfl⟩ ⟨Nat.le_refl 0, Nat.le_refl 0⟩) (fun H locs I => ?_)
    refine lv_if_ne (tgt := 40) X.1 X.2.1 dX3_readsRelation_35 (by decide) (fun c_2 => ?_) (fun c_2 => ?_)
    · skip
      have hE := ite_t hE (b2i_y c_2)
      refine lv_aload_n X.1 X.2.1 dX3_readsRelation_40 rfl (lv_at hl 1 rfl) ?_
      refine g3_1 X I (k := 7) (by decide) rfl lf_X3_18 dX3_readsRelation_41 ?_
      refine lv_iload_n X.1 X.2.1 dX3_readsRelation_44 rfl (lv_at hl 0 rfl) ?_
      refine lv_ineg X.1 X.2.1 dX3_readsRelation_45 ?_
      refine r_ev I (r_runV X I pk_X1_add (c1_add l G (k := 8) ⟨by decide, rfl, rfl⟩ _ _ _) lm_X3_34 (by decide) (cl_1 rfl) rfl rfl rfl hl.1 rfl (Nat.le_of_ble_eq_true rfl) dX3_readsRelation_46 ⟨Nat.le_of_ble_eq_true rfl, Nat.le_of_ble_eq_true rfl⟩ ⟨Nat.le_refl 0, Nat.le_refl 0⟩) (fun H locs I => ?_)
      refine lv_iconst (v := 1) X.1 X.2.1 dX3_readsRelation_49 (by decide) ?_
      have h9 := hE
      exact r_zret X I rfl (e_i (congrArg b2i (pr_fst (a := true) h9)) (pr_snd h9) rfl) dX3_readsRelation_50
    · skip
      have hE := ite_f hE (b2i_n c_2)
      refine lv_iconst (v := 0) X.1 X.2.1 dX3_readsRelation_38 (by decide) ?_
      have h9 := hE
      exact r_zret X I rfl (e_i (congrArg b2i (pr_fst (a := false) h9)) (pr_snd h9) rfl) dX3_readsRelation_39
  · skip
    have hE := ite_f hE (b2i_n c_1)
    refine lv_aload_n X.1 X.2.1 dX3_readsRelation_15 rfl (lv_at hl 1 rfl) ?_
    refine g3_0 X I (k := 7) (by decide) rfl lf_X3_9 dX3_readsRelation_16 ?_
    refine r_ei I (r_runV X I pk_X7_fails (c7_fails l G _ _) lm_X3_46 (by decide) (cl_7 rfl) rfl rfl rfl hl.1 rfl (Nat.le_of_ble_eq_true rfl) dX3_readsRelation_19 ⟨Nat.le_of_ble_eq_true rfl, Nat.le_of_ble_eq_true rfl⟩ ⟨Nat.le_refl 0, Nat.le_refl 0⟩) (fun H locs I => ?_)
    have h9 := hE
    exact r_zret X I (b2i_nar _) (e_i (congrArg b2i (congrArg Prod.fst h9)).symm (congrArg Prod.snd h9).symm rfl) dX3_readsRelation_22
noncomputable def f3_readsUnit (C : SI → Int32 → Bool → Bool × SI) (U : SI → Int32 → Bool × SI) (σ : SI) (x1 : Int32) : Bool × SI := let r0 := (f7_peek σ); if r0.1 = (33 : Int32) then (if x1 < (6 : Int32) then (let s1 := (f7_pass r0.2); if r0.1 = (40 : Int32) then (let r4 := (C s1 (x1 + (1 : Int32)) false); if r4.1 = true then (let r5 := (f7_takes r4.2 (41 : Int32)); if r5.1 = true then (true, r5.2) else (false, r5.2)) else (false, r4.2)) else (let r2 := (U s1 (x1 + (1 : Int32))); if r2.1 = true then (let s3 := (f1_add 8 r2.2 (-33 : Int32)); (true, s3)) else (false, r2.2))) else (let r6 := (f7_fails r0.2); r6)) else (if r0.1 = (40 : Int32) then (if x1 < (6 : Int32) then (let s7 := (f7_pass r0.2); if r0.1 = (40 : Int32) then (let r10 := (C s7 (x1 + (1 : Int32)) false); if r10.1 = true then (let r11 := (f7_takes r10.2 (41 : Int32)); if r11.1 = true then (true, r11.2) else (false, r11.2)) else (false, r10.2)) else (let r8 := (U s7 (x1 + (1 : Int32))); if r8.1 = true then (let s9 := (f1_add 8 r8.2 (-33 : Int32)); (true, s9)) else (false, r8.2))) else (let r12 := (f7_fails r0.2); r12)) else (let r13 := (f3_sum r0.2 x1); if r13.1 = true then (let r14 := (f3_readsRelation r13.2 x1); if r14.1 = true then (true, r14.2) else (false, r14.2)) else (false, r13.2)))
theorem w_f3_readsUnit {C : SI → Int32 → Bool → Bool × SI} {U : SI → Int32 → Bool × SI} (hU : ∀ (σ : SI) (x1 : Int32) (b : Nat), b ≠ 1 → b ≠ 8 → b ≠ 9 → (U σ x1).2 b = σ b) (hC : ∀ (σ : SI) (x1 : Int32) (x2 : Bool) (b : Nat), b ≠ 1 → b ≠ 8 → b ≠ 9 → (C σ x1 x2).2 b = σ b) (σ : SI) (x1 : Int32) (a : Nat) (h0 : a ≠ 1) (h1 : a ≠ 8) (h2 : a ≠ 9) : (f3_readsUnit C U σ x1).2 a = σ a := by
  refine fp_to2 ?_
  unfold f3_readsUnit
  exact (fr_ite2 (fr_ite2 (fr_ite2 (fr_ite2 (fr_ite2 (fr_mk21 ((w_f7_takes _ _ a h0).trans ((hC _ _ _ a h0 h1 h2).trans ((w_f7_pass _ a h0).trans (w_f7_peek _ a h0))))) (fr_mk21 ((w_f7_takes _ _ a h0).trans ((hC _ _ _ a h0 h1 h2).trans ((w_f7_pass _ a h0).trans (w_f7_peek _ a h0)))))) (fr_mk21 ((hC _ _ _ a h0 h1 h2).trans ((w_f7_pass _ a h0).trans (w_f7_peek _ a h0))))) (fr_ite2 (fr_mk21 ((w_f1_add _ _ a h2 h1).trans ((hU _ _ a h0 h1 h2).trans ((w_f7_pass _ a h0).trans (w_f7_peek _ a h0))))) (fr_mk21 ((hU _ _ a h0 h1 h2).trans ((w_f7_pass _ a h0).trans (w_f7_peek _ a h0)))))) ((w_f7_fails _ a h0).trans (w_f7_peek _ a h0))) (fr_ite2 (fr_ite2 (fr_ite2 (fr_ite2 (fr_ite2 (fr_mk21 ((w_f7_takes _ _ a h0).trans ((hC _ _ _ a h0 h1 h2).trans ((w_f7_pass _ a h0).trans (w_f7_peek _ a h0))))) (fr_mk21 ((w_f7_takes _ _ a h0).trans ((hC _ _ _ a h0 h1 h2).trans ((w_f7_pass _ a h0).trans (w_f7_peek _ a h0)))))) (fr_mk21 ((hC _ _ _ a h0 h1 h2).trans ((w_f7_pass _ a h0).trans (w_f7_peek _ a h0))))) (fr_ite2 (fr_mk21 ((w_f1_add _ _ a h2 h1).trans ((hU _ _ a h0 h1 h2).trans ((w_f7_pass _ a h0).trans (w_f7_peek _ a h0))))) (fr_mk21 ((hU _ _ a h0 h1 h2).trans ((w_f7_pass _ a h0).trans (w_f7_peek _ a h0)))))) ((w_f7_fails _ a h0).trans (w_f7_peek _ a h0))) (fr_ite2 (fr_ite2 (fr_mk21 ((w_f3_readsRelation _ _ a h0 h1 h2).trans ((w_f3_sum _ _ a h0 h1 h2).trans (w_f7_peek _ a h0)))) (fr_mk21 ((w_f3_readsRelation _ _ a h0 h1 h2).trans ((w_f3_sum _ _ a h0 h1 h2).trans (w_f7_peek _ a h0))))) (fr_mk21 ((w_f3_sum _ _ a h0 h1 h2).trans (w_f7_peek _ a h0))))))
set_option maxHeartbeats 4000000 in
set_option maxRecDepth 100000 in
theorem c3_readsUnit (l : Launch) (G : GT) {U : SI → Int32 → Bool × SI} {C : SI → Int32 → Bool → Bool × SI} {D : Nat} (hU : ∀ (σ : SI) (τ : SL) (x1 : Int32), ¬ x1 < 0 → (Int32.toInt 6 - Int32.toInt x1).toNat < D → Mc l yX3_readsUnit cX3_readsUnit 3 (some .boolean) (40 + 3 * D + 1) G [.ref (G.2.1 7), .int x1] σ τ (Qi G (Ei (b2i (U σ x1).1) (U σ x1).2 τ))) (hC : ∀ (σ : SI) (τ : SL) (x1 : Int32) (x2 : Bool), ¬ x1 < 0 → (Int32.toInt 6 - Int32.toInt x1).toNat < D → Mc l yX3_readsCondition cX3_readsCondition 4 (some .boolean) (40 + 3 * D + 3) G [.ref (G.2.1 7), .int x1, .int (b2i x2)] σ τ (Qi G (Ei (b2i (C σ x1 x2).1) (C σ x1 x2).2 τ))) (σ : SI) (τ : SL) (x1 : Int32) (hx0 : ¬ x1 < 0) (hx : (Int32.toInt 6 - Int32.toInt x1).toNat < D + 1) : Mc l yX3_readsUnit cX3_readsUnit 3 (some .boolean) (40 + 3 * D + 4) G [.ref (G.2.1 7), .int x1] σ τ (Qi G (Ei (b2i (f3_readsUnit C U σ x1).1) (f3_readsUnit C U σ x1).2 τ)) := by
  refine m_start (by decide +kernel) (Nat.le_of_ble_eq_true rfl) rfl (fun p e s m args below meth c ls X I hl => ?_)
  have hl : lv_has ls 3 [(0, .ref (G.2.1 7)), (1, .int x1)] := hl
  obtain ⟨E, hE⟩ : ∃ E, E = (f3_readsUnit C U σ x1) := ⟨_, rfl⟩
  rw [← hE]
  refine lv_aload_n X.1 X.2.1 dX3_readsUnit_0 rfl (lv_at hl 0 rfl) ?_
  refine g3_0 X I (k := 7) (by decide) rfl lf_X3_9 dX3_readsUnit_1 ?_
  refine r_ei I (r_runV X I pk_X7_peek (c7_peek l G _ _) lm_X3_38 (by decide) (cl_7 rfl) rfl rfl rfl hl.1 rfl (Nat.le_of_ble_eq_true rfl) dX3_readsUnit_4 (hr_le (by omega) (by decide)) ⟨Nat.le_refl 0, Nat.le_refl 0⟩) (fun H locs I => ?_)
  refine lv_istore_n (lv' := [(2, .int _), (0, .ref _), (1, .int _)]) X.1 X.2.1 dX3_readsUnit_7 rfl hl (by decide) rfl (fun ls hl => ?_)
  refine lv_iload_n X.1 X.2.1 dX3_readsUnit_8 rfl (lv_at hl 0 rfl) ?_
  refine lv_bipush (v := 33) X.1 X.2.1 dX3_readsUnit_9 (by decide) ?_
  refine lv_icmp_eq (tgt := 42) X.1 X.2.1 dX3_readsUnit_11 (by decide) (fun c_1 => ?_) (fun c_1 => ?_)
  · skip
    have hE := ite_t hE c_1
    refine lv_iload_n X.1 X.2.1 dX3_readsUnit_42 rfl (lv_at hl 2 rfl) ?_
    refine lv_bipush (v := 6) X.1 X.2.1 dX3_readsUnit_43 (by decide) ?_
    refine lv_icmp_lt (tgt := 56) X.1 X.2.1 dX3_readsUnit_45 (by decide) (fun c_2 => ?_) (fun c_2 => ?_)
    · skip
      have hE := ite_t hE c_2
      refine lv_aload_n X.1 X.2.1 dX3_readsUnit_56 rfl (lv_at hl 1 rfl) ?_
      refine g3_0 X I (k := 7) (by decide) rfl lf_X3_9 dX3_readsUnit_57 ?_
      refine r_ev I (r_runV X I pk_X7_pass (c7_pass l G _ _) lm_X3_68 (by decide) (cl_7 rfl) rfl rfl rfl hl.1 rfl (Nat.le_of_ble_eq_true rfl) dX3_readsUnit_60 (hr_le (by omega) (by decide)) ⟨Nat.le_refl 0, Nat.le_refl 0⟩) (fun H locs I => ?_)
      refine lv_iload_n X.1 X.2.1 dX3_readsUnit_63 rfl (lv_at hl 0 rfl) ?_
      refine lv_bipush (v := 40) X.1 X.2.1 dX3_readsUnit_64 (by decide) ?_
      refine lv_icmp_ne (tgt := 98) X.1 X.2.1 dX3_readsUnit_66 (by decide) (fun c_3 => ?_) (fun c_3 => ?_)
      · skip
        have hE := ite_f hE c_3
        refine lv_aload_n X.1 X.2.1 dX3_readsUnit_98 rfl (lv_at hl 1 rfl) ?_
        refine lv_iload_n X.1 X.2.1 dX3_readsUnit_99 rfl (lv_at hl 2 rfl) ?_
        refine lv_iconst (v := 1) X.1 X.2.1 dX3_readsUnit_100 (by decide) ?_
        refine lv_iadd X.1 X.2.1 dX3_readsUnit_101 ?_
        refine r_ei I (r_runV X I pk_X3_readsUnit (hU _ _ _ (up_nn hx0 (vp_lt c_2)) (Nat.lt_of_lt_of_le (up_dec (vp_lt c_2)) (Nat.le_of_lt_succ hx))) lm_X3_71 (by decide) (cl_3 rfl) rfl rfl rfl hl.1 rfl (Nat.le_of_ble_eq_true rfl) dX3_readsUnit_102 (hr_le (by omega) (by decide)) ⟨Nat.le_refl 0, Nat.le_refl 0⟩) (fun H locs I => ?_)
        refine lv_if_ne (tgt := 110) X.1 X.2.1 dX3_readsUnit_105 (by decide) (fun c_4 => ?_) (fun c_4 => ?_)
        · skip
          have hE := ite_t hE (b2i_y c_4)
          refine lv_aload_n X.1 X.2.1 dX3_readsUnit_110 rfl (lv_at hl 1 rfl) ?_
          refine g3_1 X I (k := 7) (by decide) rfl lf_X3_18 dX3_readsUnit_111 ?_
          refine lv_bipush (v := (-33)) X.1 X.2.1 dX3_readsUnit_114 (by decide) ?_
          refine r_ev I (r_runV X I pk_X1_add (c1_add l G (k := 8) ⟨by decide, rfl, rfl⟩ _ _ _) lm_X3_34 (by decide) (cl_1 rfl) rfl rfl rfl hl.1 rfl (Nat.le_of_ble_eq_true rfl) dX3_readsUnit_116 (hr_le (by omega) (by decide)) ⟨Nat.le_refl 0, Nat.le_refl 0⟩) (fun H locs I => ?_)
          refine lv_iconst (v := 1) X.1 X.2.1 dX3_readsUnit_119 (by decide) ?_
          have h9 := hE
          exact r_zret X I rfl (e_i (congrArg b2i (pr_fst (a := true) h9)) (pr_snd h9) rfl) dX3_readsUnit_120
        · skip
          have hE := ite_f hE (b2i_n c_4)
          refine lv_iconst (v := 0) X.1 X.2.1 dX3_readsUnit_108 (by decide) ?_
          have h9 := hE
          exact r_zret X I rfl (e_i (congrArg b2i (pr_fst (a := false) h9)) (pr_snd h9) rfl) dX3_readsUnit_109
      · skip
        have hE := ite_t hE c_3
        refine lv_aload_n X.1 X.2.1 dX3_readsUnit_69 rfl (lv_at hl 1 rfl) ?_
        refine lv_iload_n X.1 X.2.1 dX3_readsUnit_70 rfl (lv_at hl 2 rfl) ?_
        refine lv_iconst (v := 1) X.1 X.2.1 dX3_readsUnit_71 (by decide) ?_
        refine lv_iadd X.1 X.2.1 dX3_readsUnit_72 ?_
        refine lv_iconst (v := 0) X.1 X.2.1 dX3_readsUnit_73 (by decide) ?_
        refine r_ei I (r_runV X I pk_X3_readsCondition (hC _ _ _ false (up_nn hx0 (vp_lt c_2)) (Nat.lt_of_lt_of_le (up_dec (vp_lt c_2)) (Nat.le_of_lt_succ hx))) lm_X3_49 (by decide) (cl_3 rfl) rfl rfl rfl hl.1 rfl (Nat.le_of_ble_eq_true rfl) dX3_readsUnit_74 (hr_le (by omega) (by decide)) ⟨Nat.le_refl 0, Nat.le_refl 0⟩) (fun H locs I => ?_)
        refine lv_if_eq (tgt := 96) X.1 X.2.1 dX3_readsUnit_77 (by decide) (fun c_5 => ?_) (fun c_5 => ?_)
        · skip
          have hE := ite_f hE (b2i_n c_5)
          refine lv_iconst (v := 0) X.1 X.2.1 dX3_readsUnit_96 (by decide) ?_
          have h9 := hE
          exact r_zret X I rfl (e_i (congrArg b2i (pr_fst (a := false) h9)) (pr_snd h9) rfl) dX3_readsUnit_97
        · skip
          have hE := ite_t hE (b2i_y c_5)
          refine lv_aload_n X.1 X.2.1 dX3_readsUnit_80 rfl (lv_at hl 1 rfl) ?_
          refine g3_0 X I (k := 7) (by decide) rfl lf_X3_9 dX3_readsUnit_81 ?_
          refine lv_bipush (v := 41) X.1 X.2.1 dX3_readsUnit_84 (by decide) ?_
          refine r_ei I (r_runV X I pk_X7_takes (c7_takes l G _ _ _) lm_X3_42 (by decide) (cl_7 rfl) rfl rfl rfl hl.1 rfl (Nat.le_of_ble_eq_true rfl) dX3_readsUnit_86 (hr_le (by omega) (by decide)) ⟨Nat.le_refl 0, Nat.le_refl 0⟩) (fun H locs I => ?_)
          refine lv_if_eq (tgt := 96) X.1 X.2.1 dX3_readsUnit_89 (by decide) (fun c_6 => ?_) (fun c_6 => ?_)
          · skip
            have hE := ite_f hE (b2i_n c_6)
            refine lv_iconst (v := 0) X.1 X.2.1 dX3_readsUnit_96 (by decide) ?_
            have h9 := hE
            exact r_zret X I rfl (e_i (congrArg b2i (pr_fst (a := false) h9)) (pr_snd h9) rfl) dX3_readsUnit_97
          · skip
            have hE := ite_t hE (b2i_y c_6)
            refine lv_iconst (v := 1) X.1 X.2.1 dX3_readsUnit_92 (by decide) ?_
            refine lv_goto (tgt := 97) X.1 X.2.1 dX3_readsUnit_93 (by decide) ?_
            have h9 := hE
            exact r_zret X I rfl (e_i (congrArg b2i (pr_fst (a := true) h9)) (pr_snd h9) rfl) dX3_readsUnit_97
    · skip
      have hE := ite_f hE c_2
      refine lv_aload_n X.1 X.2.1 dX3_readsUnit_48 rfl (lv_at hl 1 rfl) ?_
      refine g3_0 X I (k := 7) (by decide) rfl lf_X3_9 dX3_readsUnit_49 ?_
      refine r_ei I (r_runV X I pk_X7_fails (c7_fails l G _ _) lm_X3_46 (by decide) (cl_7 rfl) rfl rfl rfl hl.1 rfl (Nat.le_of_ble_eq_true rfl) dX3_readsUnit_52 (hr_le (by omega) (by decide)) ⟨Nat.le_refl 0, Nat.le_refl 0⟩) (fun H locs I => ?_)
      have h9 := hE
      exact r_zret X I (b2i_nar _) (e_i (congrArg b2i (congrArg Prod.fst h9)).symm (congrArg Prod.snd h9).symm rfl) dX3_readsUnit_55
  · skip
    have hE := ite_f hE c_1
    refine lv_iload_n X.1 X.2.1 dX3_readsUnit_14 rfl (lv_at hl 0 rfl) ?_
    refine lv_bipush (v := 40) X.1 X.2.1 dX3_readsUnit_15 (by decide) ?_
    refine lv_icmp_eq (tgt := 42) X.1 X.2.1 dX3_readsUnit_17 (by decide) (fun c_7 => ?_) (fun c_7 => ?_)
    · skip
      have hE := ite_t hE c_7
      refine lv_iload_n X.1 X.2.1 dX3_readsUnit_42 rfl (lv_at hl 2 rfl) ?_
      refine lv_bipush (v := 6) X.1 X.2.1 dX3_readsUnit_43 (by decide) ?_
      refine lv_icmp_lt (tgt := 56) X.1 X.2.1 dX3_readsUnit_45 (by decide) (fun c_8 => ?_) (fun c_8 => ?_)
      · skip
        have hE := ite_t hE c_8
        refine lv_aload_n X.1 X.2.1 dX3_readsUnit_56 rfl (lv_at hl 1 rfl) ?_
        refine g3_0 X I (k := 7) (by decide) rfl lf_X3_9 dX3_readsUnit_57 ?_
        refine r_ev I (r_runV X I pk_X7_pass (c7_pass l G _ _) lm_X3_68 (by decide) (cl_7 rfl) rfl rfl rfl hl.1 rfl (Nat.le_of_ble_eq_true rfl) dX3_readsUnit_60 (hr_le (by omega) (by decide)) ⟨Nat.le_refl 0, Nat.le_refl 0⟩) (fun H locs I => ?_)
        refine lv_iload_n X.1 X.2.1 dX3_readsUnit_63 rfl (lv_at hl 0 rfl) ?_
        refine lv_bipush (v := 40) X.1 X.2.1 dX3_readsUnit_64 (by decide) ?_
        refine lv_icmp_ne (tgt := 98) X.1 X.2.1 dX3_readsUnit_66 (by decide) (fun c_9 => ?_) (fun c_9 => ?_)
        · skip
          have hE := ite_f hE c_9
          refine lv_aload_n X.1 X.2.1 dX3_readsUnit_98 rfl (lv_at hl 1 rfl) ?_
          refine lv_iload_n X.1 X.2.1 dX3_readsUnit_99 rfl (lv_at hl 2 rfl) ?_
          refine lv_iconst (v := 1) X.1 X.2.1 dX3_readsUnit_100 (by decide) ?_
          refine lv_iadd X.1 X.2.1 dX3_readsUnit_101 ?_
          refine r_ei I (r_runV X I pk_X3_readsUnit (hU _ _ _ (up_nn hx0 (vp_lt c_8)) (Nat.lt_of_lt_of_le (up_dec (vp_lt c_8)) (Nat.le_of_lt_succ hx))) lm_X3_71 (by decide) (cl_3 rfl) rfl rfl rfl hl.1 rfl (Nat.le_of_ble_eq_true rfl) dX3_readsUnit_102 (hr_le (by omega) (by decide)) ⟨Nat.le_refl 0, Nat.le_refl 0⟩) (fun H locs I => ?_)
          refine lv_if_ne (tgt := 110) X.1 X.2.1 dX3_readsUnit_105 (by decide) (fun c_10 => ?_) (fun c_10 => ?_)
          · skip
            have hE := ite_t hE (b2i_y c_10)
            refine lv_aload_n X.1 X.2.1 dX3_readsUnit_110 rfl (lv_at hl 1 rfl) ?_
            refine g3_1 X I (k := 7) (by decide) rfl lf_X3_18 dX3_readsUnit_111 ?_
            refine lv_bipush (v := (-33)) X.1 X.2.1 dX3_readsUnit_114 (by decide) ?_
            refine r_ev I (r_runV X I pk_X1_add (c1_add l G (k := 8) ⟨by decide, rfl, rfl⟩ _ _ _) lm_X3_34 (by decide) (cl_1 rfl) rfl rfl rfl hl.1 rfl (Nat.le_of_ble_eq_true rfl) dX3_readsUnit_116 (hr_le (by omega) (by decide)) ⟨Nat.le_refl 0, Nat.le_refl 0⟩) (fun H locs I => ?_)
            refine lv_iconst (v := 1) X.1 X.2.1 dX3_readsUnit_119 (by decide) ?_
            have h9 := hE
            exact r_zret X I rfl (e_i (congrArg b2i (pr_fst (a := true) h9)) (pr_snd h9) rfl) dX3_readsUnit_120
          · skip
            have hE := ite_f hE (b2i_n c_10)
            refine lv_iconst (v := 0) X.1 X.2.1 dX3_readsUnit_108 (by decide) ?_
            have h9 := hE
            exact r_zret X I rfl (e_i (congrArg b2i (pr_fst (a := false) h9)) (pr_snd h9) rfl) dX3_readsUnit_109
        · skip
          have hE := ite_t hE c_9
          refine lv_aload_n X.1 X.2.1 dX3_readsUnit_69 rfl (lv_at hl 1 rfl) ?_
          refine lv_iload_n X.1 X.2.1 dX3_readsUnit_70 rfl (lv_at hl 2 rfl) ?_
          refine lv_iconst (v := 1) X.1 X.2.1 dX3_readsUnit_71 (by decide) ?_
          refine lv_iadd X.1 X.2.1 dX3_readsUnit_72 ?_
          refine lv_iconst (v := 0) X.1 X.2.1 dX3_readsUnit_73 (by decide) ?_
          refine r_ei I (r_runV X I pk_X3_readsCondition (hC _ _ _ false (up_nn hx0 (vp_lt c_8)) (Nat.lt_of_lt_of_le (up_dec (vp_lt c_8)) (Nat.le_of_lt_succ hx))) lm_X3_49 (by decide) (cl_3 rfl) rfl rfl rfl hl.1 rfl (Nat.le_of_ble_eq_true rfl) dX3_readsUnit_74 (hr_le (by omega) (by decide)) ⟨Nat.le_refl 0, Nat.le_refl 0⟩) (fun H locs I => ?_)
          refine lv_if_eq (tgt := 96) X.1 X.2.1 dX3_readsUnit_77 (by decide) (fun c_11 => ?_) (fun c_11 => ?_)
          · skip
            have hE := ite_f hE (b2i_n c_11)
            refine lv_iconst (v := 0) X.1 X.2.1 dX3_readsUnit_96 (by decide) ?_
            have h9 := hE
            exact r_zret X I rfl (e_i (congrArg b2i (pr_fst (a := false) h9)) (pr_snd h9) rfl) dX3_readsUnit_97
          · skip
            have hE := ite_t hE (b2i_y c_11)
            refine lv_aload_n X.1 X.2.1 dX3_readsUnit_80 rfl (lv_at hl 1 rfl) ?_
            refine g3_0 X I (k := 7) (by decide) rfl lf_X3_9 dX3_readsUnit_81 ?_
            refine lv_bipush (v := 41) X.1 X.2.1 dX3_readsUnit_84 (by decide) ?_
            refine r_ei I (r_runV X I pk_X7_takes (c7_takes l G _ _ _) lm_X3_42 (by decide) (cl_7 rfl) rfl rfl rfl hl.1 rfl (Nat.le_of_ble_eq_true rfl) dX3_readsUnit_86 (hr_le (by omega) (by decide)) ⟨Nat.le_refl 0, Nat.le_refl 0⟩) (fun H locs I => ?_)
            refine lv_if_eq (tgt := 96) X.1 X.2.1 dX3_readsUnit_89 (by decide) (fun c_12 => ?_) (fun c_12 => ?_)
            · skip
              have hE := ite_f hE (b2i_n c_12)
              refine lv_iconst (v := 0) X.1 X.2.1 dX3_readsUnit_96 (by decide) ?_
              have h9 := hE
              exact r_zret X I rfl (e_i (congrArg b2i (pr_fst (a := false) h9)) (pr_snd h9) rfl) dX3_readsUnit_97
            · skip
              have hE := ite_t hE (b2i_y c_12)
              refine lv_iconst (v := 1) X.1 X.2.1 dX3_readsUnit_92 (by decide) ?_
              refine lv_goto (tgt := 97) X.1 X.2.1 dX3_readsUnit_93 (by decide) ?_
              have h9 := hE
              exact r_zret X I rfl (e_i (congrArg b2i (pr_fst (a := true) h9)) (pr_snd h9) rfl) dX3_readsUnit_97
      · skip
        have hE := ite_f hE c_8
        refine lv_aload_n X.1 X.2.1 dX3_readsUnit_48 rfl (lv_at hl 1 rfl) ?_
        refine g3_0 X I (k := 7) (by decide) rfl lf_X3_9 dX3_readsUnit_49 ?_
        refine r_ei I (r_runV X I pk_X7_fails (c7_fails l G _ _) lm_X3_46 (by decide) (cl_7 rfl) rfl rfl rfl hl.1 rfl (Nat.le_of_ble_eq_true rfl) dX3_readsUnit_52 (hr_le (by omega) (by decide)) ⟨Nat.le_refl 0, Nat.le_refl 0⟩) (fun H locs I => ?_)
        have h9 := hE
        exact r_zret X I (b2i_nar _) (e_i (congrArg b2i (congrArg Prod.fst h9)).symm (congrArg Prod.snd h9).symm rfl) dX3_readsUnit_55
    · skip
      have hE := ite_f hE c_7
      refine lv_aload_n X.1 X.2.1 dX3_readsUnit_20 rfl (lv_at hl 1 rfl) ?_
      refine lv_iload_n X.1 X.2.1 dX3_readsUnit_21 rfl (lv_at hl 2 rfl) ?_
      refine r_ei I (r_runV X I pk_X3_readsSum (c3_sum l G _ _ _ (hx0)) lm_X3_56 (by decide) (cl_3 rfl) rfl rfl rfl hl.1 rfl (Nat.le_of_ble_eq_true rfl) dX3_readsUnit_22 (hr_le (by omega) (by decide)) ⟨Nat.le_refl 0, Nat.le_refl 0⟩) (fun H locs I => ?_)
      refine lv_if_eq (tgt := 40) X.1 X.2.1 dX3_readsUnit_25 (by decide) (fun c_13 => ?_) (fun c_13 => ?_)
      · skip
        have hE := ite_f hE (b2i_n c_13)
        refine lv_iconst (v := 0) X.1 X.2.1 dX3_readsUnit_40 (by decide) ?_
        have h9 := hE
        exact r_zret X I rfl (e_i (congrArg b2i (pr_fst (a := false) h9)) (pr_snd h9) rfl) dX3_readsUnit_41
      · skip
        have hE := ite_t hE (b2i_y c_13)
        refine lv_aload_n X.1 X.2.1 dX3_readsUnit_28 rfl (lv_at hl 1 rfl) ?_
        refine lv_iload_n X.1 X.2.1 dX3_readsUnit_29 rfl (lv_at hl 2 rfl) ?_
        refine r_ei I (r_runV X I pk_X3_readsRelation (c3_readsRelation l G _ _ _ (hx0)) lm_X3_62 (by decide) (cl_3 rfl) rfl rfl rfl hl.1 rfl (Nat.le_of_ble_eq_true rfl) dX3_readsUnit_30 (hr_le (by omega) (by decide)) ⟨Nat.le_refl 0, Nat.le_refl 0⟩) (fun H locs I => ?_)
        refine lv_if_eq (tgt := 40) X.1 X.2.1 dX3_readsUnit_33 (by decide) (fun c_14 => ?_) (fun c_14 => ?_)
        · skip
          have hE := ite_f hE (b2i_n c_14)
          refine lv_iconst (v := 0) X.1 X.2.1 dX3_readsUnit_40 (by decide) ?_
          have h9 := hE
          exact r_zret X I rfl (e_i (congrArg b2i (pr_fst (a := false) h9)) (pr_snd h9) rfl) dX3_readsUnit_41
        · skip
          have hE := ite_t hE (b2i_y c_14)
          refine lv_iconst (v := 1) X.1 X.2.1 dX3_readsUnit_36 (by decide) ?_
          refine lv_goto (tgt := 41) X.1 X.2.1 dX3_readsUnit_37 (by decide) ?_
          have h9 := hE
          exact r_zret X I rfl (e_i (congrArg b2i (pr_fst (a := true) h9)) (pr_snd h9) rfl) dX3_readsUnit_41
