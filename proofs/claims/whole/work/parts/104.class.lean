noncomputable def f2_standing (σ : SI) (x1 : Int32) (x2 : Bool) (x3 : Int32) (x4 : Int32) (x5 : Int32) (x6 : Int32) : Int32 × SI := oq (f2_lawAt (σ 13 3)) (if x2 = true then ((1 : Int32), σ) else (((x1 / (2 : Int32)) + (1 : Int32)), σ)) (fun o_1k => let s0 := sp σ 13 5 x1; if x2 = true then (let s7 := sp s0 13 6 (1 : Int32); let s8 := sp s7 13 7 x3; let s9 := sp s8 13 8 x4; let s10 := sp s9 13 9 x5; let s11 := sp s10 13 10 x6; let r12 := (f2_worthBy o_1k s11); ((f11_within (Int32.toInt64 r12.1) (0 : Int32) (60 : Int32)), r12.2)) else (let s1 := sp s0 13 6 (0 : Int32); let s2 := sp s1 13 7 x3; let s3 := sp s2 13 8 x4; let s4 := sp s3 13 9 x5; let s5 := sp s4 13 10 x6; let r6 := (f2_worthBy o_1k s5); ((f11_within (Int32.toInt64 r6.1) (0 : Int32) (60 : Int32)), r6.2)))
theorem w_f2_standing (σ : SI) (x1 : Int32) (x2 : Bool) (x3 : Int32) (x4 : Int32) (x5 : Int32) (x6 : Int32) (a : Nat) (h0 : a ≠ 13) (h1 : a ≠ 15) : (f2_standing σ x1 x2 x3 x4 x5 x6).2 a = σ a := by
  refine fp_to2 ?_
  unfold f2_standing
  exact (oq_all (P := fun (z : Int32 × SI) => Fp2 z a (σ a)) (fun _ => (fr_ite2 (fr_mk21 rfl) (fr_mk21 rfl))) (fun o_1k ho_1k => (fr_ite2 (fr_mk21 ((w_f2_worthBy _ a h0 h1).trans ((sp_n h0).trans ((sp_n h0).trans ((sp_n h0).trans ((sp_n h0).trans ((sp_n h0).trans (sp_n h0)))))))) (fr_mk21 ((w_f2_worthBy _ a h0 h1).trans ((sp_n h0).trans ((sp_n h0).trans ((sp_n h0).trans ((sp_n h0).trans ((sp_n h0).trans (sp_n h0)))))))))))
set_option maxHeartbeats 4000000 in
set_option maxRecDepth 100000 in
theorem c2_standing (l : Launch) (G : GT) (σ : SI) (τ : SL) (x1 : Int32) (x2 : Bool) (x3 : Int32) (x4 : Int32) (x5 : Int32) (x6 : Int32) : Mc l yX2_standing cX2_standing 8 (some .int) 3 G [.ref (G.2.1 13), .int x1, .int (b2i x2), .int x3, .int x4, .int x5, .int x6] σ τ (Qi G (Ei (f2_standing σ x1 x2 x3 x4 x5 x6).1 (f2_standing σ x1 x2 x3 x4 x5 x6).2 τ)) := by
  refine m_start (by decide +kernel) (Nat.le_of_ble_eq_true rfl) rfl (fun p e s m args below meth c ls X I hl => ?_)
  have hl : lv_has ls 8 [(0, .ref (G.2.1 13)), (1, .int x1), (2, .int (b2i x2)), (3, .int x3), (4, .int x4), (5, .int x5), (6, .int x6)] := hl
  obtain ⟨E, hE⟩ : ∃ E, E = (f2_standing σ x1 x2 x3 x4 x5 x6) := ⟨_, rfl⟩
  rw [← hE]
  refine lv_aload_n X.1 X.2.1 dX2_standing_0 rfl (lv_at hl 0 rfl) ?_
  refine lv_aload_n X.1 X.2.1 dX2_standing_1 rfl (lv_at hl 0 rfl) ?_
  refine g2_3 X I (k := 13) (by decide) rfl lf_X2_22 dX2_standing_2 ?_
  refine r_eqs I (r_runV X I pk_X2_lawAt (c2_lawAt l G _ _ _) lm_X2_29 (by decide) (cl_2 rfl) rfl rfl rfl hl.1 rfl (Nat.le_of_ble_eq_true rfl) dX2_standing_5 ⟨Nat.le_of_ble_eq_true rfl, Nat.le_of_ble_eq_true rfl⟩ ⟨Nat.le_refl 0, Nat.le_refl 0⟩) (fun o_1 H locs I => ?_) (fun o_1k ho_1 H locs I => ?_)
  · skip
    have hE := hE.trans (oq_none o_1)
    refine lv_astoreN (lv' := [(7, .null), (0, .ref _), (1, .int _), (2, .int _), (3, .int _), (4, .int _), (5, .int _), (6, .int _)]) X.1 X.2.1 dX2_standing_8 hl (by decide) rfl (fun ls hl => ?_)
    refine lv_aloadN X.1 X.2.1 dX2_standing_10 (lv_at hl 0 rfl) ?_
    refine lv_ifnonnullN X.1 X.2.1 dX2_standing_12 ?_
    refine lv_iload_n X.1 X.2.1 dX2_standing_15 rfl (lv_at hl 3 rfl) ?_
    refine lv_if_eq (tgt := 23) X.1 X.2.1 dX2_standing_16 (by decide) (fun c_2 => ?_) (fun c_2 => ?_)
    · skip
      have hE := ite_f hE (b2i_n c_2)
      refine lv_iload_n X.1 X.2.1 dX2_standing_23 rfl (lv_at hl 2 rfl) ?_
      refine lv_iconst (v := 2) X.1 X.2.1 dX2_standing_24 (by decide) ?_
      refine lv_idiv X.1 X.2.1 dX2_standing_25 (by decide) ?_
      refine lv_iconst (v := 1) X.1 X.2.1 dX2_standing_26 (by decide) ?_
      refine lv_iadd X.1 X.2.1 dX2_standing_27 ?_
      have h9 := hE
      exact r_iret X I (e_i (pr_fst h9) (pr_snd h9) rfl) dX2_standing_28
    · skip
      have hE := ite_t hE (b2i_y c_2)
      refine lv_iconst (v := 1) X.1 X.2.1 dX2_standing_19 (by decide) ?_
      refine lv_goto (tgt := 28) X.1 X.2.1 dX2_standing_20 (by decide) ?_
      have h9 := hE
      exact r_iret X I (e_i (pr_fst h9) (pr_snd h9) rfl) dX2_standing_28
  · skip
    have hko_1 := law_fact ho_1
    have hE := hE.trans (oq_some ho_1)
    refine lv_astore (lv' := [(7, .ref _), (0, .ref _), (1, .int _), (2, .int _), (3, .int _), (4, .int _), (5, .int _), (6, .int _)]) X.1 X.2.1 dX2_standing_8 hl (by decide) rfl (fun ls hl => ?_)
    refine lv_aload X.1 X.2.1 dX2_standing_10 (lv_at hl 0 rfl) ?_
    refine lv_ifnonnull (tgt := 29) X.1 X.2.1 dX2_standing_12 (by decide) ?_
    refine lv_aload_n X.1 X.2.1 dX2_standing_29 rfl (lv_at hl 1 rfl) ?_
    refine lv_iload_n X.1 X.2.1 dX2_standing_30 rfl (lv_at hl 2 rfl) ?_
    refine p2_5 X I (k := 13) (by decide) rfl lf_X2_37 dX2_standing_31 (fun H locs I => ?_)
    refine lv_aload_n X.1 X.2.1 dX2_standing_34 rfl (lv_at hl 1 rfl) ?_
    refine lv_iload_n X.1 X.2.1 dX2_standing_35 rfl (lv_at hl 3 rfl) ?_
    refine lv_if_eq (tgt := 43) X.1 X.2.1 dX2_standing_36 (by decide) (fun c_3 => ?_) (fun c_3 => ?_)
    · skip
      have hE := ite_f hE (b2i_n c_3)
      refine lv_iconst (v := 0) X.1 X.2.1 dX2_standing_43 (by decide) ?_
      refine p2_6 X I (k := 13) (by decide) rfl lf_X2_40 dX2_standing_44 (fun H locs I => ?_)
      refine lv_aload_n X.1 X.2.1 dX2_standing_47 rfl (lv_at hl 1 rfl) ?_
      refine lv_iload_n X.1 X.2.1 dX2_standing_48 rfl (lv_at hl 4 rfl) ?_
      refine p2_7 X I (k := 13) (by decide) rfl lf_X2_43 dX2_standing_49 (fun H locs I => ?_)
      refine lv_aload_n X.1 X.2.1 dX2_standing_52 rfl (lv_at hl 1 rfl) ?_
      refine lv_iload X.1 X.2.1 dX2_standing_53 (lv_at hl 5 rfl) ?_
      refine p2_8 X I (k := 13) (by decide) rfl lf_X2_46 dX2_standing_55 (fun H locs I => ?_)
      refine lv_aload_n X.1 X.2.1 dX2_standing_58 rfl (lv_at hl 1 rfl) ?_
      refine lv_iload X.1 X.2.1 dX2_standing_59 (lv_at hl 6 rfl) ?_
      refine p2_9 X I (k := 13) (by decide) rfl lf_X2_49 dX2_standing_61 (fun H locs I => ?_)
      refine lv_aload_n X.1 X.2.1 dX2_standing_64 rfl (lv_at hl 1 rfl) ?_
      refine lv_iload X.1 X.2.1 dX2_standing_65 (lv_at hl 7 rfl) ?_
      refine p2_10 X I (k := 13) (by decide) rfl lf_X2_52 dX2_standing_67 (fun H locs I => ?_)
      refine lv_aload_n X.1 X.2.1 dX2_standing_70 rfl (lv_at hl 1 rfl) ?_
      refine lv_aload X.1 X.2.1 dX2_standing_71 (lv_at hl 0 rfl) ?_
      refine r_ei I (r_runV X I pk_X2_worthBy (c2_worthBy l G (k1 := o_1k) hko_1 _ _) lm_X2_55 (by decide) (cl_2 rfl) rfl rfl rfl hl.1 rfl (Nat.le_of_ble_eq_true rfl) dX2_standing_73 ⟨Nat.le_of_ble_eq_true rfl, Nat.le_of_ble_eq_true rfl⟩ ⟨Nat.le_refl 0, Nat.le_refl 0⟩) (fun H locs I => ?_)
      refine lv_i2l X.1 X.2.1 dX2_standing_76 rfl ?_
      refine lv_iconst (v := 0) X.1 X.2.1 dX2_standing_77 (by decide) ?_
      refine lv_bipush (v := 60) X.1 X.2.1 dX2_standing_78 (by decide) ?_
      refine r_ei I (r_runN X I pk_X11_within (c11_within l G _ _ _ _ _) (by decide +kernel) rfl hl.1 rfl (Nat.le_of_ble_eq_true rfl) dX2_standing_80 ⟨Nat.le_of_ble_eq_true rfl, Nat.le_of_ble_eq_true rfl⟩ ⟨Nat.le_refl 0, Nat.le_refl 0⟩) (fun H locs I => ?_)
      have h9 := hE
      exact r_iret X I (e_i (pr_fst h9) (pr_snd h9) rfl) dX2_standing_83
    · skip
      have hE := ite_t hE (b2i_y c_3)
      refine lv_iconst (v := 1) X.1 X.2.1 dX2_standing_39 (by decide) ?_
      refine lv_goto (tgt := 44) X.1 X.2.1 dX2_standing_40 (by decide) ?_
      refine p2_6 X I (k := 13) (by decide) rfl lf_X2_40 dX2_standing_44 (fun H locs I => ?_)
      refine lv_aload_n X.1 X.2.1 dX2_standing_47 rfl (lv_at hl 1 rfl) ?_
      refine lv_iload_n X.1 X.2.1 dX2_standing_48 rfl (lv_at hl 4 rfl) ?_
      refine p2_7 X I (k := 13) (by decide) rfl lf_X2_43 dX2_standing_49 (fun H locs I => ?_)
      refine lv_aload_n X.1 X.2.1 dX2_standing_52 rfl (lv_at hl 1 rfl) ?_
      refine lv_iload X.1 X.2.1 dX2_standing_53 (lv_at hl 5 rfl) ?_
      refine p2_8 X I (k := 13) (by decide) rfl lf_X2_46 dX2_standing_55 (fun H locs I => ?_)
      refine lv_aload_n X.1 X.2.1 dX2_standing_58 rfl (lv_at hl 1 rfl) ?_
      refine lv_iload X.1 X.2.1 dX2_standing_59 (lv_at hl 6 rfl) ?_
      refine p2_9 X I (k := 13) (by decide) rfl lf_X2_49 dX2_standing_61 (fun H locs I => ?_)
      refine lv_aload_n X.1 X.2.1 dX2_standing_64 rfl (lv_at hl 1 rfl) ?_
      refine lv_iload X.1 X.2.1 dX2_standing_65 (lv_at hl 7 rfl) ?_
      refine p2_10 X I (k := 13) (by decide) rfl lf_X2_52 dX2_standing_67 (fun H locs I => ?_)
      refine lv_aload_n X.1 X.2.1 dX2_standing_70 rfl (lv_at hl 1 rfl) ?_
      refine lv_aload X.1 X.2.1 dX2_standing_71 (lv_at hl 0 rfl) ?_
      refine r_ei I (r_runV X I pk_X2_worthBy (c2_worthBy l G (k1 := o_1k) hko_1 _ _) lm_X2_55 (by decide) (cl_2 rfl) rfl rfl rfl hl.1 rfl (Nat.le_of_ble_eq_true rfl) dX2_standing_73 ⟨Nat.le_of_ble_eq_true rfl, Nat.le_of_ble_eq_true rfl⟩ ⟨Nat.le_refl 0, Nat.le_refl 0⟩) (fun H locs I => ?_)
      refine lv_i2l X.1 X.2.1 dX2_standing_76 rfl ?_
      refine lv_iconst (v := 0) X.1 X.2.1 dX2_standing_77 (by decide) ?_
      refine lv_bipush (v := 60) X.1 X.2.1 dX2_standing_78 (by decide) ?_
      refine r_ei I (r_runN X I pk_X11_within (c11_within l G _ _ _ _ _) (by decide +kernel) rfl hl.1 rfl (Nat.le_of_ble_eq_true rfl) dX2_standing_80 ⟨Nat.le_of_ble_eq_true rfl, Nat.le_of_ble_eq_true rfl⟩ ⟨Nat.le_refl 0, Nat.le_refl 0⟩) (fun H locs I => ?_)
      have h9 := hE
      exact r_iret X I (e_i (pr_fst h9) (pr_snd h9) rfl) dX2_standing_83
noncomputable def f3_draft : Option Nat := (some 8)
set_option maxHeartbeats 4000000 in
set_option maxRecDepth 100000 in
theorem c3_draft (l : Launch) (G : GT) (σ : SI) (τ : SL) : Mc l yX3_draft cX3_draft 1 (some (.object "SaintCarried$Law")) 0 G [.ref (G.2.1 7)] σ τ (Qq G (Eq1 (f3_draft.map G.2.1) σ τ)) := by
  refine m_start (by decide +kernel) (Nat.le_of_ble_eq_true rfl) rfl (fun p e s m args below meth c ls X I hl => ?_)
  have hl : lv_has ls 1 [(0, .ref (G.2.1 7))] := hl
  obtain ⟨E, hE⟩ : ∃ E, E = f3_draft := ⟨_, rfl⟩
  rw [← hE]
  refine lv_aload_n X.1 X.2.1 dX3_draft_0 rfl (lv_at hl 0 rfl) ?_
  refine g3_1 X I (k := 7) (by decide) rfl lf_X3_18 dX3_draft_1 ?_
  have h9 := hE
  exact r_qret (v := some _) X I (Or.inl ⟨_, rfl⟩) (e_q (congrArg (Option.map G.2.1) h9).symm rfl rfl) dX3_draft_4
noncomputable def f3_isRelation (x0 : Int32) : Bool := if x0 = (61 : Int32) then true else (if x0 = (60 : Int32) then true else (if x0 = (62 : Int32) then true else false))
set_option maxHeartbeats 4000000 in
set_option maxRecDepth 100000 in
theorem c3_isRelation (l : Launch) (G : GT) (σ : SI) (τ : SL) (x0 : Int32) : Mc l yX3_isRelation cX3_isRelation 1 (some .boolean) 0 G [.int x0] σ τ (Qi G (Ei (b2i (f3_isRelation x0)) σ τ)) := by
  refine m_start (by decide +kernel) (Nat.le_of_ble_eq_true rfl) rfl (fun p e s m args below meth c ls X I hl => ?_)
  have hl : lv_has ls 1 [(0, .int x0)] := hl
  obtain ⟨E, hE⟩ : ∃ E, E = (f3_isRelation x0) := ⟨_, rfl⟩
  rw [← hE]
  refine lv_iload_n X.1 X.2.1 dX3_isRelation_0 rfl (lv_at hl 0 rfl) ?_
  refine lv_bipush (v := 61) X.1 X.2.1 dX3_isRelation_1 (by decide) ?_
  refine lv_icmp_eq (tgt := 18) X.1 X.2.1 dX3_isRelation_3 (by decide) (fun c_1 => ?_) (fun c_1 => ?_)
  · skip
    have hE := ite_t hE c_1
    refine lv_iconst (v := 1) X.1 X.2.1 dX3_isRelation_18 (by decide) ?_
    refine lv_goto (tgt := 23) X.1 X.2.1 dX3_isRelation_19 (by decide) ?_
    have h9 := hE
    exact r_zret X I rfl (e_i (congrArg b2i h9).symm rfl rfl) dX3_isRelation_23
  · skip
    have hE := ite_f hE c_1
    refine lv_iload_n X.1 X.2.1 dX3_isRelation_6 rfl (lv_at hl 0 rfl) ?_
    refine lv_bipush (v := 60) X.1 X.2.1 dX3_isRelation_7 (by decide) ?_
    refine lv_icmp_eq (tgt := 18) X.1 X.2.1 dX3_isRelation_9 (by decide) (fun c_2 => ?_) (fun c_2 => ?_)
    · skip
      have hE := ite_t hE c_2
      refine lv_iconst (v := 1) X.1 X.2.1 dX3_isRelation_18 (by decide) ?_
      refine lv_goto (tgt := 23) X.1 X.2.1 dX3_isRelation_19 (by decide) ?_
      have h9 := hE
      exact r_zret X I rfl (e_i (congrArg b2i h9).symm rfl rfl) dX3_isRelation_23
    · skip
      have hE := ite_f hE c_2
      refine lv_iload_n X.1 X.2.1 dX3_isRelation_12 rfl (lv_at hl 0 rfl) ?_
      refine lv_bipush (v := 62) X.1 X.2.1 dX3_isRelation_13 (by decide) ?_
      refine lv_icmp_ne (tgt := 22) X.1 X.2.1 dX3_isRelation_15 (by decide) (fun c_3 => ?_) (fun c_3 => ?_)
      · skip
        have hE := ite_f hE c_3
        refine lv_iconst (v := 0) X.1 X.2.1 dX3_isRelation_22 (by decide) ?_
        have h9 := hE
        exact r_zret X I rfl (e_i (congrArg b2i h9).symm rfl rfl) dX3_isRelation_23
      · skip
        have hE := ite_t hE c_3
        refine lv_iconst (v := 1) X.1 X.2.1 dX3_isRelation_18 (by decide) ?_
        refine lv_goto (tgt := 23) X.1 X.2.1 dX3_isRelation_19 (by decide) ?_
        have h9 := hE
        exact r_zret X I rfl (e_i (congrArg b2i h9).symm rfl rfl) dX3_isRelation_23
noncomputable def f11_isDigit (x0 : Int32) : Bool := if x0 < (48 : Int32) then false else (if (57 : Int32) < x0 then false else true)
set_option maxHeartbeats 4000000 in
set_option maxRecDepth 100000 in
theorem c11_isDigit (l : Launch) (G : GT) (σ : SI) (τ : SL) (x0 : Int32) : Mc l yX11_isDigit cX11_isDigit 1 (some .boolean) 0 G [.int x0] σ τ (Qi G (Ei (b2i (f11_isDigit x0)) σ τ)) := by
  refine m_start (by decide +kernel) (Nat.le_of_ble_eq_true rfl) rfl (fun p e s m args below meth c ls X I hl => ?_)
  have hl : lv_has ls 1 [(0, .int x0)] := hl
  obtain ⟨E, hE⟩ : ∃ E, E = (f11_isDigit x0) := ⟨_, rfl⟩
  rw [← hE]
  refine lv_iload_n X.1 X.2.1 dX11_isDigit_0 rfl (lv_at hl 0 rfl) ?_
  refine lv_bipush (v := 48) X.1 X.2.1 dX11_isDigit_1 (by decide) ?_
  refine lv_icmp_lt (tgt := 16) X.1 X.2.1 dX11_isDigit_3 (by decide) (fun c_1 => ?_) (fun c_1 => ?_)
  · skip
    have hE := ite_t hE c_1
    refine lv_iconst (v := 0) X.1 X.2.1 dX11_isDigit_16 (by decide) ?_
    have h9 := hE
    exact r_zret X I rfl (e_i (congrArg b2i h9).symm rfl rfl) dX11_isDigit_17
  · skip
    have hE := ite_f hE c_1
    refine lv_iload_n X.1 X.2.1 dX11_isDigit_6 rfl (lv_at hl 0 rfl) ?_
    refine lv_bipush (v := 57) X.1 X.2.1 dX11_isDigit_7 (by decide) ?_
    refine lv_icmp_gt (tgt := 16) X.1 X.2.1 dX11_isDigit_9 (by decide) (fun c_2 => ?_) (fun c_2 => ?_)
    · skip
      have hE := ite_t hE c_2
      refine lv_iconst (v := 0) X.1 X.2.1 dX11_isDigit_16 (by decide) ?_
      have h9 := hE
      exact r_zret X I rfl (e_i (congrArg b2i h9).symm rfl rfl) dX11_isDigit_17
    · skip
      have hE := ite_f hE c_2
      refine lv_iconst (v := 1) X.1 X.2.1 dX11_isDigit_12 (by decide) ?_
      refine lv_goto (tgt := 17) X.1 X.2.1 dX11_isDigit_13 (by decide) ?_
      have h9 := hE
      exact r_zret X I rfl (e_i (congrArg b2i h9).symm rfl rfl) dX11_isDigit_17
noncomputable def f3_isLetter (x0 : Int32) : Bool := if x0 = (103 : Int32) then true else (if x0 = (113 : Int32) then true else (if x0 = (116 : Int32) then true else (if x0 = (110 : Int32) then true else (if x0 = (100 : Int32) then true else (if x0 = (121 : Int32) then true else false)))))
set_option maxHeartbeats 4000000 in
set_option maxRecDepth 100000 in
theorem c3_isLetter (l : Launch) (G : GT) (σ : SI) (τ : SL) (x0 : Int32) : Mc l yX3_isLetter cX3_isLetter 1 (some .boolean) 0 G [.int x0] σ τ (Qi G (Ei (b2i (f3_isLetter x0)) σ τ)) := by
  refine m_start (by decide +kernel) (Nat.le_of_ble_eq_true rfl) rfl (fun p e s m args below meth c ls X I hl => ?_)
  have hl : lv_has ls 1 [(0, .int x0)] := hl
  obtain ⟨E, hE⟩ : ∃ E, E = (f3_isLetter x0) := ⟨_, rfl⟩
  rw [← hE]
  refine lv_iload_n X.1 X.2.1 dX3_isLetter_0 rfl (lv_at hl 0 rfl) ?_
  refine lv_bipush (v := 103) X.1 X.2.1 dX3_isLetter_1 (by decide) ?_
  refine lv_icmp_eq (tgt := 36) X.1 X.2.1 dX3_isLetter_3 (by decide) (fun c_1 => ?_) (fun c_1 => ?_)
  · skip
    have hE := ite_t hE c_1
    refine lv_iconst (v := 1) X.1 X.2.1 dX3_isLetter_36 (by decide) ?_
    refine lv_goto (tgt := 41) X.1 X.2.1 dX3_isLetter_37 (by decide) ?_
    have h9 := hE
    exact r_zret X I rfl (e_i (congrArg b2i h9).symm rfl rfl) dX3_isLetter_41
  · skip
    have hE := ite_f hE c_1
    refine lv_iload_n X.1 X.2.1 dX3_isLetter_6 rfl (lv_at hl 0 rfl) ?_
    refine lv_bipush (v := 113) X.1 X.2.1 dX3_isLetter_7 (by decide) ?_
    refine lv_icmp_eq (tgt := 36) X.1 X.2.1 dX3_isLetter_9 (by decide) (fun c_2 => ?_) (fun c_2 => ?_)
    · skip
      have hE := ite_t hE c_2
      refine lv_iconst (v := 1) X.1 X.2.1 dX3_isLetter_36 (by decide) ?_
      refine lv_goto (tgt := 41) X.1 X.2.1 dX3_isLetter_37 (by decide) ?_
      have h9 := hE
      exact r_zret X I rfl (e_i (congrArg b2i h9).symm rfl rfl) dX3_isLetter_41
    · skip
      have hE := ite_f hE c_2
      refine lv_iload_n X.1 X.2.1 dX3_isLetter_12 rfl (lv_at hl 0 rfl) ?_
      refine lv_bipush (v := 116) X.1 X.2.1 dX3_isLetter_13 (by decide) ?_
      refine lv_icmp_eq (tgt := 36) X.1 X.2.1 dX3_isLetter_15 (by decide) (fun c_3 => ?_) (fun c_3 => ?_)
      · skip
        have hE := ite_t hE c_3
        refine lv_iconst (v := 1) X.1 X.2.1 dX3_isLetter_36 (by decide) ?_
        refine lv_goto (tgt := 41) X.1 X.2.1 dX3_isLetter_37 (by decide) ?_
        have h9 := hE
        exact r_zret X I rfl (e_i (congrArg b2i h9).symm rfl rfl) dX3_isLetter_41
      · skip
        have hE := ite_f hE c_3
        refine lv_iload_n X.1 X.2.1 dX3_isLetter_18 rfl (lv_at hl 0 rfl) ?_
        refine lv_bipush (v := 110) X.1 X.2.1 dX3_isLetter_19 (by decide) ?_
        refine lv_icmp_eq (tgt := 36) X.1 X.2.1 dX3_isLetter_21 (by decide) (fun c_4 => ?_) (fun c_4 => ?_)
        · skip
          have hE := ite_t hE c_4
          refine lv_iconst (v := 1) X.1 X.2.1 dX3_isLetter_36 (by decide) ?_
          refine lv_goto (tgt := 41) X.1 X.2.1 dX3_isLetter_37 (by decide) ?_
          have h9 := hE
          exact r_zret X I rfl (e_i (congrArg b2i h9).symm rfl rfl) dX3_isLetter_41
        · skip
          have hE := ite_f hE c_4
          refine lv_iload_n X.1 X.2.1 dX3_isLetter_24 rfl (lv_at hl 0 rfl) ?_
          refine lv_bipush (v := 100) X.1 X.2.1 dX3_isLetter_25 (by decide) ?_
          refine lv_icmp_eq (tgt := 36) X.1 X.2.1 dX3_isLetter_27 (by decide) (fun c_5 => ?_) (fun c_5 => ?_)
          · skip
            have hE := ite_t hE c_5
            refine lv_iconst (v := 1) X.1 X.2.1 dX3_isLetter_36 (by decide) ?_
            refine lv_goto (tgt := 41) X.1 X.2.1 dX3_isLetter_37 (by decide) ?_
            have h9 := hE
            exact r_zret X I rfl (e_i (congrArg b2i h9).symm rfl rfl) dX3_isLetter_41
          · skip
            have hE := ite_f hE c_5
            refine lv_iload_n X.1 X.2.1 dX3_isLetter_30 rfl (lv_at hl 0 rfl) ?_
            refine lv_bipush (v := 121) X.1 X.2.1 dX3_isLetter_31 (by decide) ?_
            refine lv_icmp_ne (tgt := 40) X.1 X.2.1 dX3_isLetter_33 (by decide) (fun c_6 => ?_) (fun c_6 => ?_)
            · skip
              have hE := ite_f hE c_6
              refine lv_iconst (v := 0) X.1 X.2.1 dX3_isLetter_40 (by decide) ?_
              have h9 := hE
              exact r_zret X I rfl (e_i (congrArg b2i h9).symm rfl rfl) dX3_isLetter_41
            · skip
              have hE := ite_t hE c_6
              refine lv_iconst (v := 1) X.1 X.2.1 dX3_isLetter_36 (by decide) ?_
              refine lv_goto (tgt := 41) X.1 X.2.1 dX3_isLetter_37 (by decide) ?_
              have h9 := hE
              exact r_zret X I rfl (e_i (congrArg b2i h9).symm rfl rfl) dX3_isLetter_41
noncomputable def f7_fails (σ : SI) : Bool × SI := let s0 := sp σ 1 3 (σ 1 2); (false, s0)
theorem w_f7_fails (σ : SI) (a : Nat) (h0 : a ≠ 1) : (f7_fails σ).2 a = σ a := by
  refine fp_to2 ?_
  unfold f7_fails
  exact (fr_mk21 (sp_n h0))
set_option maxHeartbeats 4000000 in
set_option maxRecDepth 100000 in
theorem c7_fails (l : Launch) (G : GT) (σ : SI) (τ : SL) : Mc l yX7_fails cX7_fails 1 (some .boolean) 0 G [.ref (G.2.1 1)] σ τ (Qi G (Ei (b2i (f7_fails σ).1) (f7_fails σ).2 τ)) := by
  refine m_start (by decide +kernel) (Nat.le_of_ble_eq_true rfl) rfl (fun p e s m args below meth c ls X I hl => ?_)
  have hl : lv_has ls 1 [(0, .ref (G.2.1 1))] := hl
  obtain ⟨E, hE⟩ : ∃ E, E = (f7_fails σ) := ⟨_, rfl⟩
  rw [← hE]
  refine lv_aload_n X.1 X.2.1 dX7_fails_0 rfl (lv_at hl 0 rfl) ?_
  refine lv_aload_n X.1 X.2.1 dX7_fails_1 rfl (lv_at hl 0 rfl) ?_
  refine g7_2 X I (k := 1) (by decide) rfl lf_X7_22 dX7_fails_2 ?_
  refine p7_3 X I (k := 1) (by decide) rfl lf_X7_15 dX7_fails_5 (fun H locs I => ?_)
  refine lv_iconst (v := 0) X.1 X.2.1 dX7_fails_8 (by decide) ?_
  have h9 := hE
  exact r_zret X I rfl (e_i (congrArg b2i (pr_fst (a := false) h9)) (pr_snd h9) rfl) dX7_fails_9
noncomputable def f7_pass (σ : SI) : SI := if (σ 1 1) ≤ (σ 1 2) then σ else (let s0 := sp σ 1 2 ((σ 1 2) + (1 : Int32)); s0)
theorem w_f7_pass (σ : SI) (a : Nat) (h0 : a ≠ 1) : (f7_pass σ) a = σ a := by
  unfold f7_pass
  exact (fr_ite rfl (sp_n h0))
set_option maxHeartbeats 4000000 in
set_option maxRecDepth 100000 in
theorem c7_pass (l : Launch) (G : GT) (σ : SI) (τ : SL) : Mc l yX7_pass cX7_pass 1 none 0 G [.ref (G.2.1 1)] σ τ (Qv G (Ev (f7_pass σ) τ)) := by
  refine m_start (by decide +kernel) (Nat.le_of_ble_eq_true rfl) rfl (fun p e s m args below meth c ls X I hl => ?_)
  have hl : lv_has ls 1 [(0, .ref (G.2.1 1))] := hl
  obtain ⟨E, hE⟩ : ∃ E, E = (f7_pass σ) := ⟨_, rfl⟩
  rw [← hE]
  refine lv_aload_n X.1 X.2.1 dX7_pass_0 rfl (lv_at hl 0 rfl) ?_
  refine g7_2 X I (k := 1) (by decide) rfl lf_X7_22 dX7_pass_1 ?_
  refine lv_aload_n X.1 X.2.1 dX7_pass_4 rfl (lv_at hl 0 rfl) ?_
  refine g7_1 X I (k := 1) (by decide) rfl lf_X7_19 dX7_pass_5 ?_
  refine lv_icmp_ge (tgt := 21) X.1 X.2.1 dX7_pass_8 (by decide) (fun c_1 => ?_) (fun c_1 => ?_)
  · skip
    have hE := ite_t hE c_1
    have h9 := hE
    exact r_vret X I (e_v h9.symm rfl) dX7_pass_21
  · skip
    have hE := ite_f hE c_1
    refine lv_aload_n X.1 X.2.1 dX7_pass_11 rfl (lv_at hl 0 rfl) ?_
    refine lv_dup X.1 X.2.1 dX7_pass_12 rfl ?_
    refine g7_2 X I (k := 1) (by decide) rfl lf_X7_22 dX7_pass_13 ?_
    refine lv_iconst (v := 1) X.1 X.2.1 dX7_pass_16 (by decide) ?_
    refine lv_iadd X.1 X.2.1 dX7_pass_17 ?_
    refine p7_2 X I (k := 1) (by decide) rfl lf_X7_22 dX7_pass_18 (fun H locs I => ?_)
    have h9 := hE
    exact r_vret X I (e_v h9.symm rfl) dX7_pass_21
