noncomputable def f11_end (σ : SI) (x1 : Int32) : Bool × SI := if x1 < (0 : Int32) then (false, σ) else (if x1 ≤ (f7_size σ) then (let s0 := (f7_cut σ x1); (true, s0)) else (false, σ))
theorem w_f11_end (σ : SI) (x1 : Int32) (a : Nat) (h0 : a ≠ 1) : (f11_end σ x1).2 a = σ a := by
  refine fp_to2 ?_
  unfold f11_end
  exact (fr_ite2 (fr_mk21 rfl) (fr_ite2 (fr_mk21 (w_f7_cut _ _ a h0)) (fr_mk21 rfl)))
set_option maxHeartbeats 4000000 in
set_option maxRecDepth 100000 in
theorem c11_end (l : Launch) (G : GT) (σ : SI) (τ : SL) (x1 : Int32) : Mc l yX11_end cX11_end 2 (some .boolean) 1 G [.ref (G.2.1 0), .int x1] σ τ (Qi G (Ei (b2i (f11_end σ x1).1) (f11_end σ x1).2 τ)) := by
  refine m_start (by decide +kernel) (Nat.le_of_ble_eq_true rfl) rfl (fun p e s m args below meth c ls X I hl => ?_)
  have hl : lv_has ls 2 [(0, .ref (G.2.1 0)), (1, .int x1)] := hl
  obtain ⟨E, hE⟩ : ∃ E, E = (f11_end σ x1) := ⟨_, rfl⟩
  rw [← hE]
  refine lv_iload_n X.1 X.2.1 dX11_end_0 rfl (lv_at hl 1 rfl) ?_
  refine lv_if_lt (tgt := 15) X.1 X.2.1 dX11_end_1 (by decide) (fun c_1 => ?_) (fun c_1 => ?_)
  · skip
    have hE := ite_t hE c_1
    refine lv_iconst (v := 0) X.1 X.2.1 dX11_end_15 (by decide) ?_
    have h9 := hE
    exact r_zret X I rfl (e_i (congrArg b2i (pr_fst (a := false) h9)) (pr_snd h9) rfl) dX11_end_16
  · skip
    have hE := ite_f hE c_1
    refine lv_iload_n X.1 X.2.1 dX11_end_4 rfl (lv_at hl 1 rfl) ?_
    refine lv_aload_n X.1 X.2.1 dX11_end_5 rfl (lv_at hl 0 rfl) ?_
    refine g11_0 X I (k := 0) (by decide) rfl lf_X11_12 dX11_end_6 ?_
    refine r_ei I (r_runV X I pk_X7_size (c7_size l G _ _) lm_X11_104 (by decide) (cl_7 rfl) rfl rfl rfl hl.1 rfl (Nat.le_of_ble_eq_true rfl) dX11_end_9 ⟨Nat.le_of_ble_eq_true rfl, Nat.le_of_ble_eq_true rfl⟩ ⟨Nat.le_refl 0, Nat.le_refl 0⟩) (fun H locs I => ?_)
    refine lv_icmp_le (tgt := 17) X.1 X.2.1 dX11_end_12 (by decide) (fun c_2 => ?_) (fun c_2 => ?_)
    · skip
      have hE := ite_t hE c_2
      refine lv_aload_n X.1 X.2.1 dX11_end_17 rfl (lv_at hl 0 rfl) ?_
      refine g11_0 X I (k := 0) (by decide) rfl lf_X11_12 dX11_end_18 ?_
      refine lv_iload_n X.1 X.2.1 dX11_end_21 rfl (lv_at hl 1 rfl) ?_
      refine r_ev I (r_runV X I pk_X7_cut (c7_cut l G _ _ _) lm_X11_112 (by decide) (cl_7 rfl) rfl rfl rfl hl.1 rfl (Nat.le_of_ble_eq_true rfl) dX11_end_22 ⟨Nat.le_of_ble_eq_true rfl, Nat.le_of_ble_eq_true rfl⟩ ⟨Nat.le_refl 0, Nat.le_refl 0⟩) (fun H locs I => ?_)
      refine lv_iconst (v := 1) X.1 X.2.1 dX11_end_25 (by decide) ?_
      have h9 := hE
      exact r_zret X I rfl (e_i (congrArg b2i (pr_fst (a := true) h9)) (pr_snd h9) rfl) dX11_end_26
    · skip
      have hE := ite_f hE c_2
      refine lv_iconst (v := 0) X.1 X.2.1 dX11_end_15 (by decide) ?_
      have h9 := hE
      exact r_zret X I rfl (e_i (congrArg b2i (pr_fst (a := false) h9)) (pr_snd h9) rfl) dX11_end_16
noncomputable def f11_fault (σ : SI) (x1 : Int32) : Int32 × SI := if x1 = (0 : Int32) then (if x1 = (0 : Int32) then (let r1 := (f9_reads σ); if r1.1 = true then ((-1 : Int32), r1.2) else ((f7_wrongAt r1.2), r1.2)) else (let r0 := (f3_reads σ); if r0.1 = true then ((-1 : Int32), r0.2) else ((f7_wrongAt r0.2), r0.2))) else (if x1 = (1 : Int32) then (if x1 = (0 : Int32) then (let r3 := (f9_reads σ); if r3.1 = true then ((-1 : Int32), r3.2) else ((f7_wrongAt r3.2), r3.2)) else (let r2 := (f3_reads σ); if r2.1 = true then ((-1 : Int32), r2.2) else ((f7_wrongAt r2.2), r2.2))) else ((-2 : Int32), σ))
theorem w_f11_fault (σ : SI) (x1 : Int32) (a : Nat) (h0 : a ≠ 1) (h1 : a ≠ 5) (h2 : a ≠ 6) (h3 : a ≠ 8) (h4 : a ≠ 9) : (f11_fault σ x1).2 a = σ a := by
  refine fp_to2 ?_
  unfold f11_fault
  exact (fr_ite2 (fr_ite2 (fr_ite2 (fr_mk21 (w_f9_reads _ a h0 h1 h2)) (fr_mk21 (w_f9_reads _ a h0 h1 h2))) (fr_ite2 (fr_mk21 (w_f3_reads _ a h0 h3 h4)) (fr_mk21 (w_f3_reads _ a h0 h3 h4)))) (fr_ite2 (fr_ite2 (fr_ite2 (fr_mk21 (w_f9_reads _ a h0 h1 h2)) (fr_mk21 (w_f9_reads _ a h0 h1 h2))) (fr_ite2 (fr_mk21 (w_f3_reads _ a h0 h3 h4)) (fr_mk21 (w_f3_reads _ a h0 h3 h4)))) (fr_mk21 rfl)))
set_option maxHeartbeats 4000000 in
set_option maxRecDepth 100000 in
theorem c11_fault (l : Launch) (G : GT) (σ : SI) (τ : SL) (x1 : Int32) : Mc l yX11_fault cX11_fault 3 (some .int) 67 G [.ref (G.2.1 0), .int x1] σ τ (Qi G (Ei (f11_fault σ x1).1 (f11_fault σ x1).2 τ)) := by
  refine m_start (by decide +kernel) (Nat.le_of_ble_eq_true rfl) rfl (fun p e s m args below meth c ls X I hl => ?_)
  have hl : lv_has ls 3 [(0, .ref (G.2.1 0)), (1, .int x1)] := hl
  obtain ⟨E, hE⟩ : ∃ E, E = (f11_fault σ x1) := ⟨_, rfl⟩
  rw [← hE]
  refine lv_iload_n X.1 X.2.1 dX11_fault_0 rfl (lv_at hl 1 rfl) ?_
  refine lv_if_eq (tgt := 12) X.1 X.2.1 dX11_fault_1 (by decide) (fun c_1 => ?_) (fun c_1 => ?_)
  · skip
    have hE := ite_t hE c_1
    refine lv_iload_n X.1 X.2.1 dX11_fault_12 rfl (lv_at hl 1 rfl) ?_
    refine lv_if_ne (tgt := 26) X.1 X.2.1 dX11_fault_13 (by decide) (fun c_2 => ?_) (fun c_2 => ?_)
    · skip
      have hE := ite_f hE c_2
      refine lv_aload_n X.1 X.2.1 dX11_fault_26 rfl (lv_at hl 0 rfl) ?_
      refine g11_2 X I (k := 0) (by decide) rfl lf_X11_28 dX11_fault_27 ?_
      refine r_ei I (r_runV X I pk_X3_reads (c3_reads l G _ _) lm_X11_119 (by decide) (cl_3 rfl) rfl rfl rfl hl.1 rfl (Nat.le_of_ble_eq_true rfl) dX11_fault_30 ⟨Nat.le_of_ble_eq_true rfl, Nat.le_of_ble_eq_true rfl⟩ ⟨Nat.le_refl 0, Nat.le_refl 0⟩) (fun H locs I => ?_)
      refine lv_istore_n (lv' := [(2, .int _), (0, .ref _), (1, .int _)]) X.1 X.2.1 dX11_fault_33 rfl hl (by decide) rfl (fun ls hl => ?_)
      refine lv_iload_n X.1 X.2.1 dX11_fault_34 rfl (lv_at hl 0 rfl) ?_
      refine lv_if_eq (tgt := 42) X.1 X.2.1 dX11_fault_35 (by decide) (fun c_3 => ?_) (fun c_3 => ?_)
      · skip
        have hE := ite_f hE (b2i_n c_3)
        refine lv_aload_n X.1 X.2.1 dX11_fault_42 rfl (lv_at hl 1 rfl) ?_
        refine g11_0 X I (k := 0) (by decide) rfl lf_X11_12 dX11_fault_43 ?_
        refine r_ei I (r_runV X I pk_X7_wrongAt (c7_wrongAt l G _ _) lm_X11_120 (by decide) (cl_7 rfl) rfl rfl rfl hl.1 rfl (Nat.le_of_ble_eq_true rfl) dX11_fault_46 ⟨Nat.le_of_ble_eq_true rfl, Nat.le_of_ble_eq_true rfl⟩ ⟨Nat.le_refl 0, Nat.le_refl 0⟩) (fun H locs I => ?_)
        have h9 := hE
        exact r_iret X I (e_i (pr_fst h9) (pr_snd h9) rfl) dX11_fault_49
      · skip
        have hE := ite_t hE (b2i_y c_3)
        refine lv_iconst (v := (-1)) X.1 X.2.1 dX11_fault_38 (by decide) ?_
        refine lv_goto (tgt := 49) X.1 X.2.1 dX11_fault_39 (by decide) ?_
        have h9 := hE
        exact r_iret X I (e_i (pr_fst h9) (pr_snd h9) rfl) dX11_fault_49
    · skip
      have hE := ite_t hE c_2
      refine lv_aload_n X.1 X.2.1 dX11_fault_16 rfl (lv_at hl 0 rfl) ?_
      refine g11_1 X I (k := 0) (by decide) rfl lf_X11_21 dX11_fault_17 ?_
      refine r_ei I (r_runV X I pk_X9_reads (c9_reads l G _ _) lm_X11_115 (by decide) (cl_9 rfl) rfl rfl rfl hl.1 rfl (Nat.le_of_ble_eq_true rfl) dX11_fault_20 ⟨Nat.le_of_ble_eq_true rfl, Nat.le_of_ble_eq_true rfl⟩ ⟨Nat.le_refl 0, Nat.le_refl 0⟩) (fun H locs I => ?_)
      refine lv_goto (tgt := 33) X.1 X.2.1 dX11_fault_23 (by decide) ?_
      refine lv_istore_n (lv' := [(2, .int _), (0, .ref _), (1, .int _)]) X.1 X.2.1 dX11_fault_33 rfl hl (by decide) rfl (fun ls hl => ?_)
      refine lv_iload_n X.1 X.2.1 dX11_fault_34 rfl (lv_at hl 0 rfl) ?_
      refine lv_if_eq (tgt := 42) X.1 X.2.1 dX11_fault_35 (by decide) (fun c_4 => ?_) (fun c_4 => ?_)
      · skip
        have hE := ite_f hE (b2i_n c_4)
        refine lv_aload_n X.1 X.2.1 dX11_fault_42 rfl (lv_at hl 1 rfl) ?_
        refine g11_0 X I (k := 0) (by decide) rfl lf_X11_12 dX11_fault_43 ?_
        refine r_ei I (r_runV X I pk_X7_wrongAt (c7_wrongAt l G _ _) lm_X11_120 (by decide) (cl_7 rfl) rfl rfl rfl hl.1 rfl (Nat.le_of_ble_eq_true rfl) dX11_fault_46 ⟨Nat.le_of_ble_eq_true rfl, Nat.le_of_ble_eq_true rfl⟩ ⟨Nat.le_refl 0, Nat.le_refl 0⟩) (fun H locs I => ?_)
        have h9 := hE
        exact r_iret X I (e_i (pr_fst h9) (pr_snd h9) rfl) dX11_fault_49
      · skip
        have hE := ite_t hE (b2i_y c_4)
        refine lv_iconst (v := (-1)) X.1 X.2.1 dX11_fault_38 (by decide) ?_
        refine lv_goto (tgt := 49) X.1 X.2.1 dX11_fault_39 (by decide) ?_
        have h9 := hE
        exact r_iret X I (e_i (pr_fst h9) (pr_snd h9) rfl) dX11_fault_49
  · skip
    have hE := ite_f hE c_1
    refine lv_iload_n X.1 X.2.1 dX11_fault_4 rfl (lv_at hl 1 rfl) ?_
    refine lv_iconst (v := 1) X.1 X.2.1 dX11_fault_5 (by decide) ?_
    refine lv_icmp_eq (tgt := 12) X.1 X.2.1 dX11_fault_6 (by decide) (fun c_5 => ?_) (fun c_5 => ?_)
    · skip
      have hE := ite_t hE c_5
      refine lv_iload_n X.1 X.2.1 dX11_fault_12 rfl (lv_at hl 1 rfl) ?_
      refine lv_if_ne (tgt := 26) X.1 X.2.1 dX11_fault_13 (by decide) (fun c_6 => ?_) (fun c_6 => ?_)
      · skip
        have hE := ite_f hE c_6
        refine lv_aload_n X.1 X.2.1 dX11_fault_26 rfl (lv_at hl 0 rfl) ?_
        refine g11_2 X I (k := 0) (by decide) rfl lf_X11_28 dX11_fault_27 ?_
        refine r_ei I (r_runV X I pk_X3_reads (c3_reads l G _ _) lm_X11_119 (by decide) (cl_3 rfl) rfl rfl rfl hl.1 rfl (Nat.le_of_ble_eq_true rfl) dX11_fault_30 ⟨Nat.le_of_ble_eq_true rfl, Nat.le_of_ble_eq_true rfl⟩ ⟨Nat.le_refl 0, Nat.le_refl 0⟩) (fun H locs I => ?_)
        refine lv_istore_n (lv' := [(2, .int _), (0, .ref _), (1, .int _)]) X.1 X.2.1 dX11_fault_33 rfl hl (by decide) rfl (fun ls hl => ?_)
        refine lv_iload_n X.1 X.2.1 dX11_fault_34 rfl (lv_at hl 0 rfl) ?_
        refine lv_if_eq (tgt := 42) X.1 X.2.1 dX11_fault_35 (by decide) (fun c_7 => ?_) (fun c_7 => ?_)
        · skip
          have hE := ite_f hE (b2i_n c_7)
          refine lv_aload_n X.1 X.2.1 dX11_fault_42 rfl (lv_at hl 1 rfl) ?_
          refine g11_0 X I (k := 0) (by decide) rfl lf_X11_12 dX11_fault_43 ?_
          refine r_ei I (r_runV X I pk_X7_wrongAt (c7_wrongAt l G _ _) lm_X11_120 (by decide) (cl_7 rfl) rfl rfl rfl hl.1 rfl (Nat.le_of_ble_eq_true rfl) dX11_fault_46 ⟨Nat.le_of_ble_eq_true rfl, Nat.le_of_ble_eq_true rfl⟩ ⟨Nat.le_refl 0, Nat.le_refl 0⟩) (fun H locs I => ?_)
          have h9 := hE
          exact r_iret X I (e_i (pr_fst h9) (pr_snd h9) rfl) dX11_fault_49
        · skip
          have hE := ite_t hE (b2i_y c_7)
          refine lv_iconst (v := (-1)) X.1 X.2.1 dX11_fault_38 (by decide) ?_
          refine lv_goto (tgt := 49) X.1 X.2.1 dX11_fault_39 (by decide) ?_
          have h9 := hE
          exact r_iret X I (e_i (pr_fst h9) (pr_snd h9) rfl) dX11_fault_49
      · skip
        have hE := ite_t hE c_6
        refine lv_aload_n X.1 X.2.1 dX11_fault_16 rfl (lv_at hl 0 rfl) ?_
        refine g11_1 X I (k := 0) (by decide) rfl lf_X11_21 dX11_fault_17 ?_
        refine r_ei I (r_runV X I pk_X9_reads (c9_reads l G _ _) lm_X11_115 (by decide) (cl_9 rfl) rfl rfl rfl hl.1 rfl (Nat.le_of_ble_eq_true rfl) dX11_fault_20 ⟨Nat.le_of_ble_eq_true rfl, Nat.le_of_ble_eq_true rfl⟩ ⟨Nat.le_refl 0, Nat.le_refl 0⟩) (fun H locs I => ?_)
        refine lv_goto (tgt := 33) X.1 X.2.1 dX11_fault_23 (by decide) ?_
        refine lv_istore_n (lv' := [(2, .int _), (0, .ref _), (1, .int _)]) X.1 X.2.1 dX11_fault_33 rfl hl (by decide) rfl (fun ls hl => ?_)
        refine lv_iload_n X.1 X.2.1 dX11_fault_34 rfl (lv_at hl 0 rfl) ?_
        refine lv_if_eq (tgt := 42) X.1 X.2.1 dX11_fault_35 (by decide) (fun c_8 => ?_) (fun c_8 => ?_)
        · skip
          have hE := ite_f hE (b2i_n c_8)
          refine lv_aload_n X.1 X.2.1 dX11_fault_42 rfl (lv_at hl 1 rfl) ?_
          refine g11_0 X I (k := 0) (by decide) rfl lf_X11_12 dX11_fault_43 ?_
          refine r_ei I (r_runV X I pk_X7_wrongAt (c7_wrongAt l G _ _) lm_X11_120 (by decide) (cl_7 rfl) rfl rfl rfl hl.1 rfl (Nat.le_of_ble_eq_true rfl) dX11_fault_46 ⟨Nat.le_of_ble_eq_true rfl, Nat.le_of_ble_eq_true rfl⟩ ⟨Nat.le_refl 0, Nat.le_refl 0⟩) (fun H locs I => ?_)
          have h9 := hE
          exact r_iret X I (e_i (pr_fst h9) (pr_snd h9) rfl) dX11_fault_49
        · skip
          have hE := ite_t hE (b2i_y c_8)
          refine lv_iconst (v := (-1)) X.1 X.2.1 dX11_fault_38 (by decide) ?_
          refine lv_goto (tgt := 49) X.1 X.2.1 dX11_fault_39 (by decide) ?_
          have h9 := hE
          exact r_iret X I (e_i (pr_fst h9) (pr_snd h9) rfl) dX11_fault_49
    · skip
      have hE := ite_f hE c_5
      refine lv_bipush (v := (-2)) X.1 X.2.1 dX11_fault_9 (by decide) ?_
      have h9 := hE
      exact r_iret X I (e_i (pr_fst h9) (pr_snd h9) rfl) dX11_fault_11
noncomputable def f11_settle (σ : SI) : Int32 × SI := let s0 := (f7_cut σ (0 : Int32)); let s1 := (f8_copy 10 4 s0); let s2 := (f0_begin 24 10 s1); let s3 := (f5_forget s2); let s4 := (f10_forget s3); ((f8_houses 10 s4), s4)
theorem w_f11_settle (σ : SI) (a : Nat) (h0 : a ≠ 1) (h1 : a ≠ 11) (h2 : a ≠ 12) (h3 : a ≠ 24) (h4 : a ≠ 25) (h5 : a ≠ 26) (h6 : a ≠ 33) : (f11_settle σ).2 a = σ a := by
  refine fp_to2 ?_
  unfold f11_settle
  exact (fr_mk21 ((w_f10_forget _ a h6).trans ((w_f5_forget _ a h5).trans ((w_f0_begin _ a h4 h3).trans ((w_f8_copy _ a h1 h2).trans (w_f7_cut _ _ a h0))))))
set_option maxHeartbeats 4000000 in
set_option maxRecDepth 100000 in
theorem c11_settle (l : Launch) (G : GT) (σ : SI) (τ : SL) : Mc l yX11_settle cX11_settle 1 (some .int) 3 G [.ref (G.2.1 0)] σ τ (Qi G (Ei (f11_settle σ).1 (f11_settle σ).2 τ)) := by
  refine m_start (by decide +kernel) (Nat.le_of_ble_eq_true rfl) rfl (fun p e s m args below meth c ls X I hl => ?_)
  have hl : lv_has ls 1 [(0, .ref (G.2.1 0))] := hl
  obtain ⟨E, hE⟩ : ∃ E, E = (f11_settle σ) := ⟨_, rfl⟩
  rw [← hE]
  refine lv_aload_n X.1 X.2.1 dX11_settle_0 rfl (lv_at hl 0 rfl) ?_
  refine g11_0 X I (k := 0) (by decide) rfl lf_X11_12 dX11_settle_1 ?_
  refine lv_iconst (v := 0) X.1 X.2.1 dX11_settle_4 (by decide) ?_
  refine r_ev I (r_runV X I pk_X7_cut (c7_cut l G _ _ _) lm_X11_112 (by decide) (cl_7 rfl) rfl rfl rfl hl.1 rfl (Nat.le_of_ble_eq_true rfl) dX11_settle_5 ⟨Nat.le_of_ble_eq_true rfl, Nat.le_of_ble_eq_true rfl⟩ ⟨Nat.le_refl 0, Nat.le_refl 0⟩) (fun H locs I => ?_)
  refine lv_aload_n X.1 X.2.1 dX11_settle_8 rfl (lv_at hl 0 rfl) ?_
  refine g11_3 X I (k := 0) (by decide) rfl lf_X11_35 dX11_settle_9 ?_
  refine lv_aload_n X.1 X.2.1 dX11_settle_12 rfl (lv_at hl 0 rfl) ?_
  refine g11_1 X I (k := 0) (by decide) rfl lf_X11_21 dX11_settle_13 ?_
  refine r_eqc I (r_runV X I pk_X9_draft (c9_draft l G _ _) lm_X11_137 (by decide) (cl_9 rfl) rfl rfl rfl hl.1 rfl (Nat.le_of_ble_eq_true rfl) dX11_settle_16 ⟨Nat.le_of_ble_eq_true rfl, Nat.le_of_ble_eq_true rfl⟩ ⟨Nat.le_refl 0, Nat.le_refl 0⟩) rfl (fun H locs I => ?_)
  refine r_ev I (r_runV X I pk_X8_copy (c8_copy l G (k := 10) ⟨by decide, rfl, rfl, rfl⟩ (k1 := 4) ⟨by decide, rfl, rfl, rfl⟩ _ _) lm_X11_140 (by decide) (cl_8 rfl) rfl rfl rfl hl.1 rfl (Nat.le_of_ble_eq_true rfl) dX11_settle_19 ⟨Nat.le_of_ble_eq_true rfl, Nat.le_of_ble_eq_true rfl⟩ ⟨Nat.le_refl 0, Nat.le_refl 0⟩) (fun H locs I => ?_)
  refine lv_aload_n X.1 X.2.1 dX11_settle_22 rfl (lv_at hl 0 rfl) ?_
  refine g11_5 X I (k := 0) (by decide) rfl lf_X11_49 dX11_settle_23 ?_
  refine lv_aload_n X.1 X.2.1 dX11_settle_26 rfl (lv_at hl 0 rfl) ?_
  refine g11_3 X I (k := 0) (by decide) rfl lf_X11_35 dX11_settle_27 ?_
  refine r_ev I (r_runV X I pk_X0_begin (c0_begin l G (k := 24) ⟨by decide, rfl, rfl⟩ (k1 := 10) ⟨by decide, rfl, rfl, rfl⟩ _ _) lm_X11_144 (by decide) (cl_0 rfl) rfl rfl rfl hl.1 rfl (Nat.le_of_ble_eq_true rfl) dX11_settle_30 ⟨Nat.le_of_ble_eq_true rfl, Nat.le_of_ble_eq_true rfl⟩ ⟨Nat.le_refl 0, Nat.le_refl 0⟩) (fun H locs I => ?_)
  refine lv_aload_n X.1 X.2.1 dX11_settle_33 rfl (lv_at hl 0 rfl) ?_
  refine g11_6 X I (k := 0) (by decide) rfl lf_X11_56 dX11_settle_34 ?_
  refine r_ev I (r_runV X I pk_X5_forget (c5_forget l G _ _) lm_X11_147 (by decide) (cl_5 rfl) rfl rfl rfl hl.1 rfl (Nat.le_of_ble_eq_true rfl) dX11_settle_37 ⟨Nat.le_of_ble_eq_true rfl, Nat.le_of_ble_eq_true rfl⟩ ⟨Nat.le_refl 0, Nat.le_refl 0⟩) (fun H locs I => ?_)
  refine lv_aload_n X.1 X.2.1 dX11_settle_40 rfl (lv_at hl 0 rfl) ?_
  refine g11_8 X I (k := 0) (by decide) rfl lf_X11_72 dX11_settle_41 ?_
  refine r_ev I (r_runV X I pk_X10_forget (c10_forget l G _ _) lm_X11_150 (by decide) (cl_10 rfl) rfl rfl rfl hl.1 rfl (Nat.le_of_ble_eq_true rfl) dX11_settle_44 ⟨Nat.le_of_ble_eq_true rfl, Nat.le_of_ble_eq_true rfl⟩ ⟨Nat.le_refl 0, Nat.le_refl 0⟩) (fun H locs I => ?_)
  refine lv_aload_n X.1 X.2.1 dX11_settle_47 rfl (lv_at hl 0 rfl) ?_
  refine g11_3 X I (k := 0) (by decide) rfl lf_X11_35 dX11_settle_48 ?_
  refine r_ei I (r_runV X I pk_X8_houses (c8_houses l G (k := 10) ⟨by decide, rfl, rfl, rfl⟩ _ _) lm_X11_151 (by decide) (cl_8 rfl) rfl rfl rfl hl.1 rfl (Nat.le_of_ble_eq_true rfl) dX11_settle_51 ⟨Nat.le_of_ble_eq_true rfl, Nat.le_of_ble_eq_true rfl⟩ ⟨Nat.le_refl 0, Nat.le_refl 0⟩) (fun H locs I => ?_)
  have h9 := hE
  exact r_iret X I (e_i (pr_fst h9) (pr_snd h9) rfl) dX11_settle_54
noncomputable def f11_text (σ : SI) (x1 : Int32) : Int32 × SI := if x1 = (0 : Int32) then (let r3 := (f9_reads σ); if r3.1 = true then (let r4 := (f11_settle r3.2); r4) else ((-1 : Int32), r3.2)) else (if x1 = (1 : Int32) then (if (4 : Int32) ≤ (f2_number σ) then ((-1 : Int32), σ) else (let r0 := (f3_reads σ); if r0.1 = true then (let s1 := (f7_cut r0.2 (0 : Int32)); let r2 := (f2_add 8 s1); r2) else ((-1 : Int32), r0.2))) else ((-1 : Int32), σ))
theorem w_f11_text (σ : SI) (x1 : Int32) (a : Nat) (h0 : a ≠ 1) (h1 : a ≠ 5) (h2 : a ≠ 6) (h3 : a ≠ 8) (h4 : a ≠ 9) (h5 : a ≠ 11) (h6 : a ≠ 12) (h7 : a ≠ 13) (h8 : a ≠ 24) (h9 : a ≠ 25) (h10 : a ≠ 26) (h11 : a ≠ 33) (h12 : a < 16 ∨ 24 ≤ a) : (f11_text σ x1).2 a = σ a := by
  refine fp_to2 ?_
  unfold f11_text
  exact (fr_ite2 (fr_ite2 ((w_f11_settle _ a h0 h5 h6 h8 h9 h10 h11).trans (w_f9_reads _ a h0 h1 h2)) (fr_mk21 (w_f9_reads _ a h0 h1 h2))) (fr_ite2 (fr_ite2 (fr_mk21 rfl) (fr_ite2 ((w_f2_add _ a h7 h12).trans ((w_f7_cut _ _ a h0).trans (w_f3_reads _ a h0 h3 h4))) (fr_mk21 (w_f3_reads _ a h0 h3 h4)))) (fr_mk21 rfl)))
set_option maxHeartbeats 4000000 in
set_option maxRecDepth 100000 in
theorem c11_text (l : Launch) (G : GT) (σ : SI) (τ : SL) (x1 : Int32) : Mc l yX11_text cX11_text 2 (some .int) 67 G [.ref (G.2.1 0), .int x1] σ τ (Qi G (Ei (f11_text σ x1).1 (f11_text σ x1).2 τ)) := by
  refine m_start (by decide +kernel) (Nat.le_of_ble_eq_true rfl) rfl (fun p e s m args below meth c ls X I hl => ?_)
  have hl : lv_has ls 2 [(0, .ref (G.2.1 0)), (1, .int x1)] := hl
  obtain ⟨E, hE⟩ : ∃ E, E = (f11_text σ x1) := ⟨_, rfl⟩
  rw [← hE]
  refine lv_iload_n X.1 X.2.1 dX11_text_0 rfl (lv_at hl 1 rfl) ?_
  refine lv_if_ne (tgt := 23) X.1 X.2.1 dX11_text_1 (by decide) (fun c_1 => ?_) (fun c_1 => ?_)
  · skip
    have hE := ite_f hE c_1
    refine lv_iload_n X.1 X.2.1 dX11_text_23 rfl (lv_at hl 1 rfl) ?_
    refine lv_iconst (v := 1) X.1 X.2.1 dX11_text_24 (by decide) ?_
    refine lv_icmp_ne (tgt := 72) X.1 X.2.1 dX11_text_25 (by decide) (fun c_2 => ?_) (fun c_2 => ?_)
    · skip
      have hE := ite_f hE c_2
      refine lv_iconst (v := (-1)) X.1 X.2.1 dX11_text_72 (by decide) ?_
      have h9 := hE
      exact r_iret X I (e_i (pr_fst h9) (pr_snd h9) rfl) dX11_text_73
    · skip
      have hE := ite_t hE c_2
      refine lv_aload_n X.1 X.2.1 dX11_text_28 rfl (lv_at hl 0 rfl) ?_
      refine g11_4 X I (k := 0) (by decide) rfl lf_X11_42 dX11_text_29 ?_
      refine r_ei I (r_runV X I pk_X2_number (c2_number l G _ _) lm_X11_126 (by decide) (cl_2 rfl) rfl rfl rfl hl.1 rfl (Nat.le_of_ble_eq_true rfl) dX11_text_32 ⟨Nat.le_of_ble_eq_true rfl, Nat.le_of_ble_eq_true rfl⟩ ⟨Nat.le_refl 0, Nat.le_refl 0⟩) (fun H locs I => ?_)
      refine lv_iconst (v := 4) X.1 X.2.1 dX11_text_35 (by decide) ?_
      refine lv_icmp_ge (tgt := 72) X.1 X.2.1 dX11_text_36 (by decide) (fun c_3 => ?_) (fun c_3 => ?_)
      · skip
        have hE := ite_t hE c_3
        refine lv_iconst (v := (-1)) X.1 X.2.1 dX11_text_72 (by decide) ?_
        have h9 := hE
        exact r_iret X I (e_i (pr_fst h9) (pr_snd h9) rfl) dX11_text_73
      · skip
        have hE := ite_f hE c_3
        refine lv_aload_n X.1 X.2.1 dX11_text_39 rfl (lv_at hl 0 rfl) ?_
        refine g11_2 X I (k := 0) (by decide) rfl lf_X11_28 dX11_text_40 ?_
        refine r_ei I (r_runV X I pk_X3_reads (c3_reads l G _ _) lm_X11_119 (by decide) (cl_3 rfl) rfl rfl rfl hl.1 rfl (Nat.le_of_ble_eq_true rfl) dX11_text_43 ⟨Nat.le_of_ble_eq_true rfl, Nat.le_of_ble_eq_true rfl⟩ ⟨Nat.le_refl 0, Nat.le_refl 0⟩) (fun H locs I => ?_)
        refine lv_if_eq (tgt := 72) X.1 X.2.1 dX11_text_46 (by decide) (fun c_4 => ?_) (fun c_4 => ?_)
        · skip
          have hE := ite_f hE (b2i_n c_4)
          refine lv_iconst (v := (-1)) X.1 X.2.1 dX11_text_72 (by decide) ?_
          have h9 := hE
          exact r_iret X I (e_i (pr_fst h9) (pr_snd h9) rfl) dX11_text_73
        · skip
          have hE := ite_t hE (b2i_y c_4)
          refine lv_aload_n X.1 X.2.1 dX11_text_49 rfl (lv_at hl 0 rfl) ?_
          refine g11_0 X I (k := 0) (by decide) rfl lf_X11_12 dX11_text_50 ?_
          refine lv_iconst (v := 0) X.1 X.2.1 dX11_text_53 (by decide) ?_
          refine r_ev I (r_runV X I pk_X7_cut (c7_cut l G _ _ _) lm_X11_112 (by decide) (cl_7 rfl) rfl rfl rfl hl.1 rfl (Nat.le_of_ble_eq_true rfl) dX11_text_54 ⟨Nat.le_of_ble_eq_true rfl, Nat.le_of_ble_eq_true rfl⟩ ⟨Nat.le_refl 0, Nat.le_refl 0⟩) (fun H locs I => ?_)
          refine lv_aload_n X.1 X.2.1 dX11_text_57 rfl (lv_at hl 0 rfl) ?_
          refine g11_4 X I (k := 0) (by decide) rfl lf_X11_42 dX11_text_58 ?_
          refine lv_aload_n X.1 X.2.1 dX11_text_61 rfl (lv_at hl 0 rfl) ?_
          refine g11_2 X I (k := 0) (by decide) rfl lf_X11_28 dX11_text_62 ?_
          refine r_eqc I (r_runV X I pk_X3_draft (c3_draft l G _ _) lm_X11_129 (by decide) (cl_3 rfl) rfl rfl rfl hl.1 rfl (Nat.le_of_ble_eq_true rfl) dX11_text_65 ⟨Nat.le_of_ble_eq_true rfl, Nat.le_of_ble_eq_true rfl⟩ ⟨Nat.le_refl 0, Nat.le_refl 0⟩) rfl (fun H locs I => ?_)
          refine r_ei I (r_runV X I pk_X2_add (c2_add l G (k1 := 8) ⟨by decide, rfl, rfl⟩ _ _) lm_X11_133 (by decide) (cl_2 rfl) rfl rfl rfl hl.1 rfl (Nat.le_of_ble_eq_true rfl) dX11_text_68 ⟨Nat.le_of_ble_eq_true rfl, Nat.le_of_ble_eq_true rfl⟩ ⟨Nat.le_refl 0, Nat.le_refl 0⟩) (fun H locs I => ?_)
          have h9 := hE
          exact r_iret X I (e_i (congrArg Prod.fst h9).symm (congrArg Prod.snd h9).symm rfl) dX11_text_71
  · skip
    have hE := ite_t hE c_1
    refine lv_aload_n X.1 X.2.1 dX11_text_4 rfl (lv_at hl 0 rfl) ?_
    refine g11_1 X I (k := 0) (by decide) rfl lf_X11_21 dX11_text_5 ?_
    refine r_ei I (r_runV X I pk_X9_reads (c9_reads l G _ _) lm_X11_115 (by decide) (cl_9 rfl) rfl rfl rfl hl.1 rfl (Nat.le_of_ble_eq_true rfl) dX11_text_8 ⟨Nat.le_of_ble_eq_true rfl, Nat.le_of_ble_eq_true rfl⟩ ⟨Nat.le_refl 0, Nat.le_refl 0⟩) (fun H locs I => ?_)
    refine lv_if_eq (tgt := 21) X.1 X.2.1 dX11_text_11 (by decide) (fun c_5 => ?_) (fun c_5 => ?_)
    · skip
      have hE := ite_f hE (b2i_n c_5)
      refine lv_iconst (v := (-1)) X.1 X.2.1 dX11_text_21 (by decide) ?_
      have h9 := hE
      exact r_iret X I (e_i (pr_fst h9) (pr_snd h9) rfl) dX11_text_22
    · skip
      have hE := ite_t hE (b2i_y c_5)
      refine lv_aload_n X.1 X.2.1 dX11_text_14 rfl (lv_at hl 0 rfl) ?_
      refine r_ei I (r_runV X I pk_X11_settle (c11_settle l G _ _) lm_X11_123 (by decide) (cl_11 rfl) rfl rfl rfl hl.1 rfl (Nat.le_of_ble_eq_true rfl) dX11_text_15 ⟨Nat.le_of_ble_eq_true rfl, Nat.le_of_ble_eq_true rfl⟩ ⟨Nat.le_refl 0, Nat.le_refl 0⟩) (fun H locs I => ?_)
      refine lv_goto (tgt := 22) X.1 X.2.1 dX11_text_18 (by decide) ?_
      have h9 := hE
      exact r_iret X I (e_i (congrArg Prod.fst h9).symm (congrArg Prod.snd h9).symm rfl) dX11_text_22
