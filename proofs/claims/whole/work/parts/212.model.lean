noncomputable def f12_text (σ : SI) (x1 : Int32) : Int32 × SI := if x1 = (0 : Int32) then (let r3 := (f12_readTown σ); if r3.1 = (-1 : Int32) then (let s7 := sp r3.2 123 2 (0 : Int32); let r8 := (f12_takeTown s7); r8) else (if x1 = (1 : Int32) then (if (4 : Int32) ≤ (r3.2 123 13) then ((-1 : Int32), r3.2) else (let r4 := (f12_readLaw r3.2 (r3.2 123 13)); if r4.1 = (-1 : Int32) then (let s5 := sp r4.2 123 2 (0 : Int32); let s6 := sp s5 123 13 ((r4.2 123 13) + (1 : Int32)); ((((r4.2 123 13) + (1 : Int32)) - (1 : Int32)), s6)) else ((-1 : Int32), r4.2))) else ((-1 : Int32), r3.2))) else (if x1 = (1 : Int32) then (if (4 : Int32) ≤ (σ 123 13) then ((-1 : Int32), σ) else (let r0 := (f12_readLaw σ (σ 123 13)); if r0.1 = (-1 : Int32) then (let s1 := sp r0.2 123 2 (0 : Int32); let s2 := sp s1 123 13 ((r0.2 123 13) + (1 : Int32)); ((((r0.2 123 13) + (1 : Int32)) - (1 : Int32)), s2)) else ((-1 : Int32), r0.2))) else ((-1 : Int32), σ))
noncomputable def o12_text (σ : SI) (x1 : Int32) : Prop := if x1 = (0 : Int32) then ((o12_readTown σ) ∧ (let r3 := (f12_readTown σ); if r3.1 = (-1 : Int32) then (let s7 := sp r3.2 123 2 (0 : Int32); (o12_takeTown s7) ∧ (let r8 := (f12_takeTown s7); True)) else (if x1 = (1 : Int32) then (if (4 : Int32) ≤ (r3.2 123 13) then True else ((o12_readLaw r3.2 (r3.2 123 13)) ∧ (let r4 := (f12_readLaw r3.2 (r3.2 123 13)); if r4.1 = (-1 : Int32) then (let s5 := sp r4.2 123 2 (0 : Int32); let s6 := sp s5 123 13 ((r4.2 123 13) + (1 : Int32)); True) else True))) else True))) else (if x1 = (1 : Int32) then (if (4 : Int32) ≤ (σ 123 13) then True else ((o12_readLaw σ (σ 123 13)) ∧ (let r0 := (f12_readLaw σ (σ 123 13)); if r0.1 = (-1 : Int32) then (let s1 := sp r0.2 123 2 (0 : Int32); let s2 := sp s1 123 13 ((r0.2 123 13) + (1 : Int32)); True) else True))) else True)
theorem w_f12_text (σ : SI) (x1 : Int32) (a : Nat) (h0 : a ≠ 123) (h1 : a ≠ 125) (h2 : a ≠ 126) (h3 : a ≠ 127) (h4 : a ≠ 128) (h5 : a ≠ 129) (h6 : a ≠ 130) (h7 : a ≠ 131) (h8 : a ≠ 134) (h9 : a ≠ 135) (h10 : a ≠ 136) (h11 : a ≠ 137) (h12 : a ≠ 138) (h13 : a ≠ 139) (h14 : a ≠ 140) : (f12_text σ x1).2 a = σ a := by
  refine fp_to2 ?_
  unfold f12_text
  exact (fr_ite2 (fr_ite2 ((w_f12_takeTown _ a h0 h11 h12 h13 h14).trans ((sp_n h0).trans (w_f12_readTown _ a h0 h8 h9 h10))) (fr_ite2 (fr_ite2 (fr_mk21 (w_f12_readTown _ a h0 h8 h9 h10)) (fr_ite2 (fr_mk21 ((sp_n h0).trans ((sp_n h0).trans ((w_f12_readLaw _ _ a h0 h1 h2 h3 h4 h5 h6 h7).trans (w_f12_readTown _ a h0 h8 h9 h10))))) (fr_mk21 ((w_f12_readLaw _ _ a h0 h1 h2 h3 h4 h5 h6 h7).trans (w_f12_readTown _ a h0 h8 h9 h10))))) (fr_mk21 (w_f12_readTown _ a h0 h8 h9 h10)))) (fr_ite2 (fr_ite2 (fr_mk21 rfl) (fr_ite2 (fr_mk21 ((sp_n h0).trans ((sp_n h0).trans (w_f12_readLaw _ _ a h0 h1 h2 h3 h4 h5 h6 h7)))) (fr_mk21 (w_f12_readLaw _ _ a h0 h1 h2 h3 h4 h5 h6 h7)))) (fr_mk21 rfl)))
set_option maxHeartbeats 4000000 in
set_option maxRecDepth 100000 in
theorem c12_text (l : Launch) (G : GT) (σ : SI) (τ : SL) (x1 : Int32) (ho : o12_text σ x1) : Mc l yX12_text cX12_text 2 (some .int) 98 G [.ref (G.2.1 123), .int x1] σ τ (Qi G (Ei (f12_text σ x1).1 (f12_text σ x1).2 τ)) := by
  refine m_start (by decide +kernel) (Nat.le_of_ble_eq_true rfl) rfl (fun p e s m args below meth c ls X I hl => ?_)
  have hl : lv_has ls 2 [(0, .ref (G.2.1 123)), (1, .int x1)] := hl
  obtain ⟨E, hE⟩ : ∃ E, E = (f12_text σ x1) := ⟨_, rfl⟩
  rw [← hE]
  unfold o12_text at ho
  refine lv_iload_n X.1 X.2.1 dX12_text_0 rfl (lv_at hl 1 rfl) ?_
  refine lv_if_ne (tgt := 22) X.1 X.2.1 dX12_text_1 (by decide) (fun c_1 => ?_) (fun c_1 => ?_)
  · skip
    have hE := ite_f hE c_1
    have ho := ite_fP ho c_1
    refine lv_iload_n X.1 X.2.1 dX12_text_22 rfl (lv_at hl 1 rfl) ?_
    refine lv_iconst (v := 1) X.1 X.2.1 dX12_text_23 (by decide) ?_
    refine lv_icmp_ne (tgt := 69) X.1 X.2.1 dX12_text_24 (by decide) (fun c_2 => ?_) (fun c_2 => ?_)
    · skip
      have hE := ite_f hE c_2
      have ho := ite_fP ho c_2
      refine lv_iconst (v := (-1)) X.1 X.2.1 dX12_text_69 (by decide) ?_
      have h9 := hE
      exact r_iret X I (e_i (pr_fst h9) (pr_snd h9) rfl) dX12_text_70
    · skip
      have hE := ite_t hE c_2
      have ho := ite_tP ho c_2
      refine lv_aload_n X.1 X.2.1 dX12_text_27 rfl (lv_at hl 0 rfl) ?_
      refine g12_13 X I (k := 123) (by decide) rfl lf_X12_289 dX12_text_28 ?_
      refine lv_iconst (v := 4) X.1 X.2.1 dX12_text_31 (by decide) ?_
      refine lv_icmp_ge (tgt := 69) X.1 X.2.1 dX12_text_32 (by decide) (fun c_3 => ?_) (fun c_3 => ?_)
      · skip
        have hE := ite_t hE c_3
        have ho := ite_tP ho c_3
        refine lv_iconst (v := (-1)) X.1 X.2.1 dX12_text_69 (by decide) ?_
        have h9 := hE
        exact r_iret X I (e_i (pr_fst h9) (pr_snd h9) rfl) dX12_text_70
      · skip
        have hE := ite_f hE c_3
        have ho := ite_fP ho c_3
        refine lv_aload_n X.1 X.2.1 dX12_text_35 rfl (lv_at hl 0 rfl) ?_
        refine lv_aload_n X.1 X.2.1 dX12_text_36 rfl (lv_at hl 0 rfl) ?_
        refine g12_13 X I (k := 123) (by decide) rfl lf_X12_289 dX12_text_37 ?_
        have ho1 := ho.1
        have ho := ho.2
        refine r_ei I (r_runV X I pk_X12_readLaw (c12_readLaw l G _ _ _ ho1) lm_X12_261 (by decide) (cl_12 rfl) rfl rfl rfl hl.1 rfl (Nat.le_of_ble_eq_true rfl) dX12_text_40 ⟨Nat.le_of_ble_eq_true rfl, Nat.le_of_ble_eq_true rfl⟩ ⟨Nat.le_refl 0, Nat.le_refl 0⟩) (fun H locs I => ?_)
        refine lv_iconst (v := (-1)) X.1 X.2.1 dX12_text_43 (by decide) ?_
        refine lv_icmp_ne (tgt := 69) X.1 X.2.1 dX12_text_44 (by decide) (fun c_4 => ?_) (fun c_4 => ?_)
        · skip
          have hE := ite_f hE c_4
          have ho := ite_fP ho c_4
          refine lv_iconst (v := (-1)) X.1 X.2.1 dX12_text_69 (by decide) ?_
          have h9 := hE
          exact r_iret X I (e_i (pr_fst h9) (pr_snd h9) rfl) dX12_text_70
        · skip
          have hE := ite_t hE c_4
          have ho := ite_tP ho c_4
          refine lv_aload_n X.1 X.2.1 dX12_text_47 rfl (lv_at hl 0 rfl) ?_
          refine lv_iconst (v := 0) X.1 X.2.1 dX12_text_48 (by decide) ?_
          refine p12_2 X I (k := 123) (by decide) rfl lf_X12_112 dX12_text_49 (fun H locs I => ?_)
          refine lv_aload_n X.1 X.2.1 dX12_text_52 rfl (lv_at hl 0 rfl) ?_
          refine lv_dup X.1 X.2.1 dX12_text_53 rfl ?_
          refine g12_13 X I (k := 123) (by decide) rfl lf_X12_289 dX12_text_54 ?_
          refine lv_iconst (v := 1) X.1 X.2.1 dX12_text_57 (by decide) ?_
          refine lv_iadd X.1 X.2.1 dX12_text_58 ?_
          refine p12_13 X I (k := 123) (by decide) rfl lf_X12_289 dX12_text_59 (fun H locs I => ?_)
          refine lv_aload_n X.1 X.2.1 dX12_text_62 rfl (lv_at hl 0 rfl) ?_
          refine g12_13 X I (k := 123) (by decide) rfl lf_X12_289 dX12_text_63 ?_
          refine lv_iconst (v := 1) X.1 X.2.1 dX12_text_66 (by decide) ?_
          refine lv_isub X.1 X.2.1 dX12_text_67 ?_
          have h9 := hE
          exact r_iret X I (e_i (pr_fst h9) (pr_snd h9) rfl) dX12_text_68
  · skip
    have hE := ite_t hE c_1
    have ho := ite_tP ho c_1
    refine lv_aload_n X.1 X.2.1 dX12_text_4 rfl (lv_at hl 0 rfl) ?_
    have ho2 := ho.1
    have ho := ho.2
    refine r_ei I (r_runV X I pk_X12_readTown (c12_readTown l G _ _ ho2) lm_X12_258 (by decide) (cl_12 rfl) rfl rfl rfl hl.1 rfl (Nat.le_of_ble_eq_true rfl) dX12_text_5 ⟨Nat.le_of_ble_eq_true rfl, Nat.le_of_ble_eq_true rfl⟩ ⟨Nat.le_refl 0, Nat.le_refl 0⟩) (fun H locs I => ?_)
    refine lv_iconst (v := (-1)) X.1 X.2.1 dX12_text_8 (by decide) ?_
    refine lv_icmp_ne (tgt := 22) X.1 X.2.1 dX12_text_9 (by decide) (fun c_5 => ?_) (fun c_5 => ?_)
    · skip
      have hE := ite_f hE c_5
      have ho := ite_fP ho c_5
      refine lv_iload_n X.1 X.2.1 dX12_text_22 rfl (lv_at hl 1 rfl) ?_
      refine lv_iconst (v := 1) X.1 X.2.1 dX12_text_23 (by decide) ?_
      refine lv_icmp_ne (tgt := 69) X.1 X.2.1 dX12_text_24 (by decide) (fun c_6 => ?_) (fun c_6 => ?_)
      · skip
        have hE := ite_f hE c_6
        have ho := ite_fP ho c_6
        refine lv_iconst (v := (-1)) X.1 X.2.1 dX12_text_69 (by decide) ?_
        have h9 := hE
        exact r_iret X I (e_i (pr_fst h9) (pr_snd h9) rfl) dX12_text_70
      · skip
        have hE := ite_t hE c_6
        have ho := ite_tP ho c_6
        refine lv_aload_n X.1 X.2.1 dX12_text_27 rfl (lv_at hl 0 rfl) ?_
        refine g12_13 X I (k := 123) (by decide) rfl lf_X12_289 dX12_text_28 ?_
        refine lv_iconst (v := 4) X.1 X.2.1 dX12_text_31 (by decide) ?_
        refine lv_icmp_ge (tgt := 69) X.1 X.2.1 dX12_text_32 (by decide) (fun c_7 => ?_) (fun c_7 => ?_)
        · skip
          have hE := ite_t hE c_7
          have ho := ite_tP ho c_7
          refine lv_iconst (v := (-1)) X.1 X.2.1 dX12_text_69 (by decide) ?_
          have h9 := hE
          exact r_iret X I (e_i (pr_fst h9) (pr_snd h9) rfl) dX12_text_70
        · skip
          have hE := ite_f hE c_7
          have ho := ite_fP ho c_7
          refine lv_aload_n X.1 X.2.1 dX12_text_35 rfl (lv_at hl 0 rfl) ?_
          refine lv_aload_n X.1 X.2.1 dX12_text_36 rfl (lv_at hl 0 rfl) ?_
          refine g12_13 X I (k := 123) (by decide) rfl lf_X12_289 dX12_text_37 ?_
          have ho3 := ho.1
          have ho := ho.2
          refine r_ei I (r_runV X I pk_X12_readLaw (c12_readLaw l G _ _ _ ho3) lm_X12_261 (by decide) (cl_12 rfl) rfl rfl rfl hl.1 rfl (Nat.le_of_ble_eq_true rfl) dX12_text_40 ⟨Nat.le_of_ble_eq_true rfl, Nat.le_of_ble_eq_true rfl⟩ ⟨Nat.le_refl 0, Nat.le_refl 0⟩) (fun H locs I => ?_)
          refine lv_iconst (v := (-1)) X.1 X.2.1 dX12_text_43 (by decide) ?_
          refine lv_icmp_ne (tgt := 69) X.1 X.2.1 dX12_text_44 (by decide) (fun c_8 => ?_) (fun c_8 => ?_)
          · skip
            have hE := ite_f hE c_8
            have ho := ite_fP ho c_8
            refine lv_iconst (v := (-1)) X.1 X.2.1 dX12_text_69 (by decide) ?_
            have h9 := hE
            exact r_iret X I (e_i (pr_fst h9) (pr_snd h9) rfl) dX12_text_70
          · skip
            have hE := ite_t hE c_8
            have ho := ite_tP ho c_8
            refine lv_aload_n X.1 X.2.1 dX12_text_47 rfl (lv_at hl 0 rfl) ?_
            refine lv_iconst (v := 0) X.1 X.2.1 dX12_text_48 (by decide) ?_
            refine p12_2 X I (k := 123) (by decide) rfl lf_X12_112 dX12_text_49 (fun H locs I => ?_)
            refine lv_aload_n X.1 X.2.1 dX12_text_52 rfl (lv_at hl 0 rfl) ?_
            refine lv_dup X.1 X.2.1 dX12_text_53 rfl ?_
            refine g12_13 X I (k := 123) (by decide) rfl lf_X12_289 dX12_text_54 ?_
            refine lv_iconst (v := 1) X.1 X.2.1 dX12_text_57 (by decide) ?_
            refine lv_iadd X.1 X.2.1 dX12_text_58 ?_
            refine p12_13 X I (k := 123) (by decide) rfl lf_X12_289 dX12_text_59 (fun H locs I => ?_)
            refine lv_aload_n X.1 X.2.1 dX12_text_62 rfl (lv_at hl 0 rfl) ?_
            refine g12_13 X I (k := 123) (by decide) rfl lf_X12_289 dX12_text_63 ?_
            refine lv_iconst (v := 1) X.1 X.2.1 dX12_text_66 (by decide) ?_
            refine lv_isub X.1 X.2.1 dX12_text_67 ?_
            have h9 := hE
            exact r_iret X I (e_i (pr_fst h9) (pr_snd h9) rfl) dX12_text_68
    · skip
      have hE := ite_t hE c_5
      have ho := ite_tP ho c_5
      refine lv_aload_n X.1 X.2.1 dX12_text_12 rfl (lv_at hl 0 rfl) ?_
      refine lv_iconst (v := 0) X.1 X.2.1 dX12_text_13 (by decide) ?_
      refine p12_2 X I (k := 123) (by decide) rfl lf_X12_112 dX12_text_14 (fun H locs I => ?_)
      refine lv_aload_n X.1 X.2.1 dX12_text_17 rfl (lv_at hl 0 rfl) ?_
      have ho4 := ho.1
      have ho := ho.2
      refine r_ei I (r_runV X I pk_X12_takeTown (c12_takeTown l G _ _ ho4) lm_X12_286 (by decide) (cl_12 rfl) rfl rfl rfl hl.1 rfl (Nat.le_of_ble_eq_true rfl) dX12_text_18 ⟨Nat.le_of_ble_eq_true rfl, Nat.le_of_ble_eq_true rfl⟩ ⟨Nat.le_refl 0, Nat.le_refl 0⟩) (fun H locs I => ?_)
      have h9 := hE
      exact r_iret X I (e_i (congrArg Prod.fst h9).symm (congrArg Prod.snd h9).symm rfl) dX12_text_21
noncomputable def f12_isHouse (σ : SI) (x1 : Int32) : Bool := (f12_in x1 (0 : Int32) ((σ 123 25) - (1 : Int32)))
set_option maxHeartbeats 4000000 in
set_option maxRecDepth 100000 in
theorem c12_isHouse (l : Launch) (G : GT) (σ : SI) (τ : SL) (x1 : Int32) : Mc l yX12_isHouse cX12_isHouse 2 (some .boolean) 1 G [.ref (G.2.1 123), .int x1] σ τ (Qi G (Ei (b2i (f12_isHouse σ x1)) σ τ)) := by
  refine m_start (by decide +kernel) (Nat.le_of_ble_eq_true rfl) rfl (fun p e s m args below meth c ls X I hl => ?_)
  have hl : lv_has ls 2 [(0, .ref (G.2.1 123)), (1, .int x1)] := hl
  obtain ⟨E, hE⟩ : ∃ E, E = (f12_isHouse σ x1) := ⟨_, rfl⟩
  rw [← hE]
  refine lv_iload_n X.1 X.2.1 dX12_isHouse_0 rfl (lv_at hl 1 rfl) ?_
  refine lv_iconst (v := 0) X.1 X.2.1 dX12_isHouse_1 (by decide) ?_
  refine lv_aload_n X.1 X.2.1 dX12_isHouse_2 rfl (lv_at hl 0 rfl) ?_
  refine g12_25 X I (k := 123) (by decide) rfl lf_X12_264 dX12_isHouse_3 ?_
  refine lv_iconst (v := 1) X.1 X.2.1 dX12_isHouse_6 (by decide) ?_
  refine lv_isub X.1 X.2.1 dX12_isHouse_7 ?_
  refine r_ei I (r_runS X I pk_X12_in (c12_in l G _ _ _ _ _) lm_X12_220 rfl hl.1 rfl (Nat.le_of_ble_eq_true rfl) dX12_isHouse_8 ⟨Nat.le_of_ble_eq_true rfl, Nat.le_of_ble_eq_true rfl⟩ ⟨Nat.le_refl 0, Nat.le_refl 0⟩) (fun H locs I => ?_)
  have h9 := hE
  exact r_zret X I (b2i_nar _) (e_i (congrArg b2i h9).symm rfl rfl) dX12_isHouse_11
noncomputable def f12_isThankful (σ : SI) (x1 : Int32) : Bool := if (f12_of σ x1 (3 : Int32)) = (1 : Int32) then true else false
noncomputable def o12_isThankful (σ : SI) (x1 : Int32) : Prop := (o12_of σ x1 (3 : Int32)) ∧ (if (f12_of σ x1 (3 : Int32)) = (1 : Int32) then True else True)
set_option maxHeartbeats 4000000 in
set_option maxRecDepth 100000 in
theorem c12_isThankful (l : Launch) (G : GT) (σ : SI) (τ : SL) (x1 : Int32) (ho : o12_isThankful σ x1) : Mc l yX12_isThankful cX12_isThankful 2 (some .boolean) 1 G [.ref (G.2.1 123), .int x1] σ τ (Qi G (Ei (b2i (f12_isThankful σ x1)) σ τ)) := by
  refine m_start (by decide +kernel) (Nat.le_of_ble_eq_true rfl) rfl (fun p e s m args below meth c ls X I hl => ?_)
  have hl : lv_has ls 2 [(0, .ref (G.2.1 123)), (1, .int x1)] := hl
  obtain ⟨E, hE⟩ : ∃ E, E = (f12_isThankful σ x1) := ⟨_, rfl⟩
  rw [← hE]
  unfold o12_isThankful at ho
  refine lv_aload_n X.1 X.2.1 dX12_isThankful_0 rfl (lv_at hl 0 rfl) ?_
  refine lv_iload_n X.1 X.2.1 dX12_isThankful_1 rfl (lv_at hl 1 rfl) ?_
  refine lv_iconst (v := 3) X.1 X.2.1 dX12_isThankful_2 (by decide) ?_
  have ho1 := ho.1
  have ho := ho.2
  refine r_ei I (r_runV X I pk_X12_of (c12_of l G _ _ _ _ ho1) lm_X12_270 (by decide) (cl_12 rfl) rfl rfl rfl hl.1 rfl (Nat.le_of_ble_eq_true rfl) dX12_isThankful_3 ⟨Nat.le_of_ble_eq_true rfl, Nat.le_of_ble_eq_true rfl⟩ ⟨Nat.le_refl 0, Nat.le_refl 0⟩) (fun H locs I => ?_)
  refine lv_iconst (v := 1) X.1 X.2.1 dX12_isThankful_6 (by decide) ?_
  refine lv_icmp_ne (tgt := 14) X.1 X.2.1 dX12_isThankful_7 (by decide) (fun c_1 => ?_) (fun c_1 => ?_)
  · skip
    have hE := ite_f hE c_1
    have ho := ite_fP ho c_1
    refine lv_iconst (v := 0) X.1 X.2.1 dX12_isThankful_14 (by decide) ?_
    have h9 := hE
    exact r_zret X I rfl (e_i (congrArg b2i h9).symm rfl rfl) dX12_isThankful_15
  · skip
    have hE := ite_t hE c_1
    have ho := ite_tP ho c_1
    refine lv_iconst (v := 1) X.1 X.2.1 dX12_isThankful_10 (by decide) ?_
    refine lv_goto (tgt := 15) X.1 X.2.1 dX12_isThankful_11 (by decide) ?_
    have h9 := hE
    exact r_zret X I rfl (e_i (congrArg b2i h9).symm rfl rfl) dX12_isThankful_15
noncomputable def f12_allStrength_c4 (σ : SI) : Nat → Int32 → Int32 → Int32
  | 0, _, _ => 0
  | fu + 1, v1, v2 => if (σ 123 26) ≤ v2 then v1 else (f12_allStrength_c4 σ fu (v1 + (σ 139 (Int32.toNatClampNeg v2))) (v2 + 1))
noncomputable def o12_allStrength_c4 (σ : SI) : Nat → Int32 → Int32 → Prop
  | 0, _, _ => True
  | fu + 1, v1, v2 => if (σ 123 26) ≤ v2 then True else ((vp_in v2 5) ∧ (o12_allStrength_c4 σ fu (v1 + (σ 139 (Int32.toNatClampNeg v2))) (v2 + 1)))
noncomputable def f12_allStrength (σ : SI) : Int32 := (f12_allStrength_c4 σ (fu1 ((Int32.toInt (σ 123 26) - Int32.toInt (0 : Int32)).toNat)) (0 : Int32) (0 : Int32))
noncomputable def o12_allStrength (σ : SI) : Prop := (o12_allStrength_c4 σ (fu1 ((Int32.toInt (σ 123 26) - Int32.toInt (0 : Int32)).toNat)) (0 : Int32) (0 : Int32))
set_option maxHeartbeats 4000000 in
set_option maxRecDepth 100000 in
theorem c12_allStrength_c4 {l : Launch} {p : Program} {e : Env} {s : State} {m : MethodId} {args : Array Value} {below : List Frame} {meth : Method} {c : Code} {G : GT} (X : CX p s m args meth c cX12_allStrength RX12 3 (some .int) G) {E : Int32} (σ : SI) (τ : SL) : ∀ (fu : Nat) (v1 : Int32) (v2 : Int32) (H : Heap) (locs : List Loc) (ls : Array Slot), IX G s H locs σ τ → lv_has ls 3 [(0, .ref (G.2.1 123)), (1, .int v1), (2, .int v2)] → (o12_allStrength_c4 σ fu v1 v2) → (Int32.toInt (σ 123 26) - Int32.toInt v2).toNat < fu → E = (f12_allStrength_c4 σ fu v1 v2) → W p l e (rmN 0) s m args below meth c H locs 0 0 (MQ below ((Qi G (Ei E σ τ)) s.heap.size) args s 0 0 (AW G s.heap.size)) (F0 m 4 ls []) := by
  intro fu
  induction fu with
  | zero =>
    intro v1 v2 H locs ls I hl  ho hm hE
    exact absurd hm (Nat.not_lt_zero _)
  | succ fu ih =>
    intro v1 v2 H locs ls I hl  ho hm hE
    unfold o12_allStrength_c4 at ho
    refine lv_iload_n X.1 X.2.1 dX12_allStrength_4 rfl (lv_at hl 2 rfl) ?_
    refine lv_aload_n X.1 X.2.1 dX12_allStrength_5 rfl (lv_at hl 0 rfl) ?_
    refine g12_26 X I (k := 123) (by decide) rfl lf_X12_267 dX12_allStrength_6 ?_
    refine lv_icmp_ge (tgt := 27) X.1 X.2.1 dX12_allStrength_9 (by decide) (fun c_1 => ?_) (fun c_1 => ?_)
    · skip
      have hE := ite_t hE c_1
      have ho := ite_tP ho c_1
      refine lv_iload_n X.1 X.2.1 dX12_allStrength_27 rfl (lv_at hl 1 rfl) ?_
      have h9 := hE
      exact r_iret X I (e_i h9.symm rfl rfl) dX12_allStrength_28
    · skip
      have hE := ite_f hE c_1
      have ho := ite_fP ho c_1
      refine lv_iload_n X.1 X.2.1 dX12_allStrength_12 rfl (lv_at hl 1 rfl) ?_
      refine lv_aload_n X.1 X.2.1 dX12_allStrength_13 rfl (lv_at hl 0 rfl) ?_
      refine g12_24 X I (k := 123) (by decide) rfl lf_X12_55 dX12_allStrength_14 ?_
      refine lv_iload_n X.1 X.2.1 dX12_allStrength_17 rfl (lv_at hl 2 rfl) ?_
      have ho1 := ho.1
      have ho := ho.2
      refine r_ald X I (k := 139) (n := 5) (by decide) rfl ho1 dX12_allStrength_18 ?_
      refine lv_iadd X.1 X.2.1 dX12_allStrength_19 ?_
      refine lv_istore_n (lv' := [(1, .int _), (0, .ref _), (2, .int _)]) X.1 X.2.1 dX12_allStrength_20 rfl hl (by decide) rfl (fun ls hl => ?_)
      refine lv_iinc (v := _ + 1) (lv' := [(2, .int _), (1, .int _), (0, .ref _)]) X.1 X.2.1 dX12_allStrength_21 hl (k := 2) rfl rfl (by decide) rfl (fun ls hl => ?_)
      refine lv_goto (tgt := 4) X.1 X.2.1 dX12_allStrength_24 (by decide) ?_
      exact ih _ _ _ _ _ I (lv_sub hl [2, 1, 0] rfl) ho (Nat.lt_of_lt_of_le (up_dec c_1) (Nat.le_of_lt_succ hm)) (hE.trans (rfl))
set_option maxHeartbeats 4000000 in
set_option maxRecDepth 100000 in
theorem c12_allStrength (l : Launch) (G : GT) (σ : SI) (τ : SL) (ho : o12_allStrength σ) : Mc l yX12_allStrength cX12_allStrength 3 (some .int) 0 G [.ref (G.2.1 123)] σ τ (Qi G (Ei (f12_allStrength σ) σ τ)) := by
  refine m_start (by decide +kernel) (Nat.le_of_ble_eq_true rfl) rfl (fun p e s m args below meth c ls X I hl => ?_)
  have hl : lv_has ls 3 [(0, .ref (G.2.1 123))] := hl
  obtain ⟨E, hE⟩ : ∃ E, E = (f12_allStrength σ) := ⟨_, rfl⟩
  rw [← hE]
  unfold o12_allStrength at ho
  refine lv_iconst (v := 0) X.1 X.2.1 dX12_allStrength_0 (by decide) ?_
  refine lv_istore_n (lv' := [(1, .int _), (0, .ref _)]) X.1 X.2.1 dX12_allStrength_1 rfl hl (by decide) rfl (fun ls hl => ?_)
  refine lv_iconst (v := 0) X.1 X.2.1 dX12_allStrength_2 (by decide) ?_
  refine lv_istore_n (lv' := [(2, .int _), (1, .int _), (0, .ref _)]) X.1 X.2.1 dX12_allStrength_3 rfl hl (by decide) rfl (fun ls hl => ?_)
  exact c12_allStrength_c4 X _ _  _ _ _ _ _ _ I (lv_sub hl [2, 1, 0] rfl) ho (fu1_lt _) (hE.trans (rfl))
noncomputable def f12_stepsTo (σ : SI) (x1 : Int32) (x2 : Int32) : Int32 := if x1 = (-1 : Int32) then (if x1 = (-1 : Int32) then ((if 0 ≤ ((f12_of σ x2 (0 : Int32)) - (0 : Int32)) then ((f12_of σ x2 (0 : Int32)) - (0 : Int32)) else 0 - ((f12_of σ x2 (0 : Int32)) - (0 : Int32))) + (if 0 ≤ ((f12_of σ x2 (1 : Int32)) - (0 : Int32)) then ((f12_of σ x2 (1 : Int32)) - (0 : Int32)) else 0 - ((f12_of σ x2 (1 : Int32)) - (0 : Int32)))) else ((if 0 ≤ ((f12_of σ x2 (0 : Int32)) - (0 : Int32)) then ((f12_of σ x2 (0 : Int32)) - (0 : Int32)) else 0 - ((f12_of σ x2 (0 : Int32)) - (0 : Int32))) + (if 0 ≤ ((f12_of σ x2 (1 : Int32)) - (f12_of σ x1 (1 : Int32))) then ((f12_of σ x2 (1 : Int32)) - (f12_of σ x1 (1 : Int32))) else 0 - ((f12_of σ x2 (1 : Int32)) - (f12_of σ x1 (1 : Int32)))))) else (if x1 = (-1 : Int32) then ((if 0 ≤ ((f12_of σ x2 (0 : Int32)) - (f12_of σ x1 (0 : Int32))) then ((f12_of σ x2 (0 : Int32)) - (f12_of σ x1 (0 : Int32))) else 0 - ((f12_of σ x2 (0 : Int32)) - (f12_of σ x1 (0 : Int32)))) + (if 0 ≤ ((f12_of σ x2 (1 : Int32)) - (0 : Int32)) then ((f12_of σ x2 (1 : Int32)) - (0 : Int32)) else 0 - ((f12_of σ x2 (1 : Int32)) - (0 : Int32)))) else ((if 0 ≤ ((f12_of σ x2 (0 : Int32)) - (f12_of σ x1 (0 : Int32))) then ((f12_of σ x2 (0 : Int32)) - (f12_of σ x1 (0 : Int32))) else 0 - ((f12_of σ x2 (0 : Int32)) - (f12_of σ x1 (0 : Int32)))) + (if 0 ≤ ((f12_of σ x2 (1 : Int32)) - (f12_of σ x1 (1 : Int32))) then ((f12_of σ x2 (1 : Int32)) - (f12_of σ x1 (1 : Int32))) else 0 - ((f12_of σ x2 (1 : Int32)) - (f12_of σ x1 (1 : Int32))))))
noncomputable def o12_stepsTo (σ : SI) (x1 : Int32) (x2 : Int32) : Prop := if x1 = (-1 : Int32) then (if x1 = (-1 : Int32) then ((o12_of σ x2 (0 : Int32)) ∧ ((o12_of σ x2 (1 : Int32)) ∧ True)) else ((o12_of σ x1 (1 : Int32)) ∧ ((o12_of σ x2 (0 : Int32)) ∧ ((o12_of σ x2 (1 : Int32)) ∧ True)))) else ((o12_of σ x1 (0 : Int32)) ∧ (if x1 = (-1 : Int32) then ((o12_of σ x2 (0 : Int32)) ∧ ((o12_of σ x2 (1 : Int32)) ∧ True)) else ((o12_of σ x1 (1 : Int32)) ∧ ((o12_of σ x2 (0 : Int32)) ∧ ((o12_of σ x2 (1 : Int32)) ∧ True)))))
set_option maxHeartbeats 4000000 in
set_option maxRecDepth 100000 in
theorem c12_stepsTo (l : Launch) (G : GT) (σ : SI) (τ : SL) (x1 : Int32) (x2 : Int32) (ho : o12_stepsTo σ x1 x2) : Mc l yX12_stepsTo cX12_stepsTo 5 (some .int) 1 G [.ref (G.2.1 123), .int x1, .int x2] σ τ (Qi G (Ei (f12_stepsTo σ x1 x2) σ τ)) := by
  refine m_start (by decide +kernel) (Nat.le_of_ble_eq_true rfl) rfl (fun p e s m args below meth c ls X I hl => ?_)
  have hl : lv_has ls 5 [(0, .ref (G.2.1 123)), (1, .int x1), (2, .int x2)] := hl
  obtain ⟨E, hE⟩ : ∃ E, E = (f12_stepsTo σ x1 x2) := ⟨_, rfl⟩
  rw [← hE]
  unfold o12_stepsTo at ho
  refine lv_iload_n X.1 X.2.1 dX12_stepsTo_0 rfl (lv_at hl 1 rfl) ?_
  refine lv_iconst (v := (-1)) X.1 X.2.1 dX12_stepsTo_1 (by decide) ?_
  refine lv_icmp_ne (tgt := 9) X.1 X.2.1 dX12_stepsTo_2 (by decide) (fun c_1 => ?_) (fun c_1 => ?_)
  · skip
    have hE := ite_f hE c_1
    have ho := ite_fP ho c_1
    refine lv_aload_n X.1 X.2.1 dX12_stepsTo_9 rfl (lv_at hl 0 rfl) ?_
    refine lv_iload_n X.1 X.2.1 dX12_stepsTo_10 rfl (lv_at hl 1 rfl) ?_
    refine lv_iconst (v := 0) X.1 X.2.1 dX12_stepsTo_11 (by decide) ?_
    have ho1 := ho.1
    have ho := ho.2
    refine r_ei I (r_runV X I pk_X12_of (c12_of l G _ _ _ _ ho1) lm_X12_270 (by decide) (cl_12 rfl) rfl rfl rfl hl.1 rfl (Nat.le_of_ble_eq_true rfl) dX12_stepsTo_12 ⟨Nat.le_of_ble_eq_true rfl, Nat.le_of_ble_eq_true rfl⟩ ⟨Nat.le_refl 0, Nat.le_refl 0⟩) (fun H locs I => ?_)
    refine lv_istore_n (lv' := [(3, .int _), (0, .ref _), (1, .int _), (2, .int _)]) X.1 X.2.1 dX12_stepsTo_15 rfl hl (by decide) rfl (fun ls hl => ?_)
    refine lv_iload_n X.1 X.2.1 dX12_stepsTo_16 rfl (lv_at hl 2 rfl) ?_
    refine lv_iconst (v := (-1)) X.1 X.2.1 dX12_stepsTo_17 (by decide) ?_
    refine lv_icmp_ne (tgt := 25) X.1 X.2.1 dX12_stepsTo_18 (by decide) (fun c_2 => ?_) (fun c_2 => ?_)
    · skip
      have hE := ite_f hE c_2
      have ho := ite_fP ho c_2
      refine lv_aload_n X.1 X.2.1 dX12_stepsTo_25 rfl (lv_at hl 1 rfl) ?_
      refine lv_iload_n X.1 X.2.1 dX12_stepsTo_26 rfl (lv_at hl 2 rfl) ?_
      refine lv_iconst (v := 1) X.1 X.2.1 dX12_stepsTo_27 (by decide) ?_
      have ho2 := ho.1
      have ho := ho.2
      refine r_ei I (r_runV X I pk_X12_of (c12_of l G _ _ _ _ ho2) lm_X12_270 (by decide) (cl_12 rfl) rfl rfl rfl hl.1 rfl (Nat.le_of_ble_eq_true rfl) dX12_stepsTo_28 ⟨Nat.le_of_ble_eq_true rfl, Nat.le_of_ble_eq_true rfl⟩ ⟨Nat.le_refl 0, Nat.le_refl 0⟩) (fun H locs I => ?_)
      refine lv_istore (lv' := [(4, .int _), (3, .int _), (0, .ref _), (1, .int _), (2, .int _)]) X.1 X.2.1 dX12_stepsTo_31 hl (by decide) rfl (fun ls hl => ?_)
      refine lv_aload_n X.1 X.2.1 dX12_stepsTo_33 rfl (lv_at hl 2 rfl) ?_
      refine lv_iload_n X.1 X.2.1 dX12_stepsTo_34 rfl (lv_at hl 4 rfl) ?_
      refine lv_iconst (v := 0) X.1 X.2.1 dX12_stepsTo_35 (by decide) ?_
      have ho3 := ho.1
      have ho := ho.2
      refine r_ei I (r_runV X I pk_X12_of (c12_of l G _ _ _ _ ho3) lm_X12_270 (by decide) (cl_12 rfl) rfl rfl rfl hl.1 rfl (Nat.le_of_ble_eq_true rfl) dX12_stepsTo_36 ⟨Nat.le_of_ble_eq_true rfl, Nat.le_of_ble_eq_true rfl⟩ ⟨Nat.le_refl 0, Nat.le_refl 0⟩) (fun H locs I => ?_)
      refine lv_iload_n X.1 X.2.1 dX12_stepsTo_39 rfl (lv_at hl 1 rfl) ?_
      refine lv_isub X.1 X.2.1 dX12_stepsTo_40 ?_
      refine r_mabs X hl.1 lm_X12_292 ls_J9_abs_0f7a4 ln_J9 lc_J9_abs_0f7a4 (Nat.le_of_ble_eq_true rfl) (Nat.le_of_ble_eq_true rfl) (Nat.le_refl 0) (Nat.le_refl 0) dX12_stepsTo_41 ?_
      refine lv_aload_n X.1 X.2.1 dX12_stepsTo_44 rfl (lv_at hl 2 rfl) ?_
      refine lv_iload_n X.1 X.2.1 dX12_stepsTo_45 rfl (lv_at hl 4 rfl) ?_
      refine lv_iconst (v := 1) X.1 X.2.1 dX12_stepsTo_46 (by decide) ?_
      have ho4 := ho.1
      have ho := ho.2
      refine r_ei I (r_runV X I pk_X12_of (c12_of l G _ _ _ _ ho4) lm_X12_270 (by decide) (cl_12 rfl) rfl rfl rfl hl.1 rfl (Nat.le_of_ble_eq_true rfl) dX12_stepsTo_47 ⟨Nat.le_of_ble_eq_true rfl, Nat.le_of_ble_eq_true rfl⟩ ⟨Nat.le_refl 0, Nat.le_refl 0⟩) (fun H locs I => ?_)
      refine lv_iload X.1 X.2.1 dX12_stepsTo_50 (lv_at hl 0 rfl) ?_
      refine lv_isub X.1 X.2.1 dX12_stepsTo_52 ?_
      refine r_mabs X hl.1 lm_X12_292 ls_J9_abs_0f7a4 ln_J9 lc_J9_abs_0f7a4 (Nat.le_of_ble_eq_true rfl) (Nat.le_of_ble_eq_true rfl) (Nat.le_refl 0) (Nat.le_refl 0) dX12_stepsTo_53 ?_
      refine lv_iadd X.1 X.2.1 dX12_stepsTo_56 ?_
      have h9 := hE
      exact r_iret X I (e_i h9.symm rfl rfl) dX12_stepsTo_57
    · skip
      have hE := ite_t hE c_2
      have ho := ite_tP ho c_2
      refine lv_iconst (v := 0) X.1 X.2.1 dX12_stepsTo_21 (by decide) ?_
      refine lv_goto (tgt := 31) X.1 X.2.1 dX12_stepsTo_22 (by decide) ?_
      refine lv_istore (lv' := [(4, .int _), (3, .int _), (0, .ref _), (1, .int _), (2, .int _)]) X.1 X.2.1 dX12_stepsTo_31 hl (by decide) rfl (fun ls hl => ?_)
      refine lv_aload_n X.1 X.2.1 dX12_stepsTo_33 rfl (lv_at hl 2 rfl) ?_
      refine lv_iload_n X.1 X.2.1 dX12_stepsTo_34 rfl (lv_at hl 4 rfl) ?_
      refine lv_iconst (v := 0) X.1 X.2.1 dX12_stepsTo_35 (by decide) ?_
      have ho5 := ho.1
      have ho := ho.2
      refine r_ei I (r_runV X I pk_X12_of (c12_of l G _ _ _ _ ho5) lm_X12_270 (by decide) (cl_12 rfl) rfl rfl rfl hl.1 rfl (Nat.le_of_ble_eq_true rfl) dX12_stepsTo_36 ⟨Nat.le_of_ble_eq_true rfl, Nat.le_of_ble_eq_true rfl⟩ ⟨Nat.le_refl 0, Nat.le_refl 0⟩) (fun H locs I => ?_)
      refine lv_iload_n X.1 X.2.1 dX12_stepsTo_39 rfl (lv_at hl 1 rfl) ?_
      refine lv_isub X.1 X.2.1 dX12_stepsTo_40 ?_
      refine r_mabs X hl.1 lm_X12_292 ls_J9_abs_0f7a4 ln_J9 lc_J9_abs_0f7a4 (Nat.le_of_ble_eq_true rfl) (Nat.le_of_ble_eq_true rfl) (Nat.le_refl 0) (Nat.le_refl 0) dX12_stepsTo_41 ?_
      refine lv_aload_n X.1 X.2.1 dX12_stepsTo_44 rfl (lv_at hl 2 rfl) ?_
      refine lv_iload_n X.1 X.2.1 dX12_stepsTo_45 rfl (lv_at hl 4 rfl) ?_
      refine lv_iconst (v := 1) X.1 X.2.1 dX12_stepsTo_46 (by decide) ?_
      have ho6 := ho.1
      have ho := ho.2
      refine r_ei I (r_runV X I pk_X12_of (c12_of l G _ _ _ _ ho6) lm_X12_270 (by decide) (cl_12 rfl) rfl rfl rfl hl.1 rfl (Nat.le_of_ble_eq_true rfl) dX12_stepsTo_47 ⟨Nat.le_of_ble_eq_true rfl, Nat.le_of_ble_eq_true rfl⟩ ⟨Nat.le_refl 0, Nat.le_refl 0⟩) (fun H locs I => ?_)
      refine lv_iload X.1 X.2.1 dX12_stepsTo_50 (lv_at hl 0 rfl) ?_
      refine lv_isub X.1 X.2.1 dX12_stepsTo_52 ?_
      refine r_mabs X hl.1 lm_X12_292 ls_J9_abs_0f7a4 ln_J9 lc_J9_abs_0f7a4 (Nat.le_of_ble_eq_true rfl) (Nat.le_of_ble_eq_true rfl) (Nat.le_refl 0) (Nat.le_refl 0) dX12_stepsTo_53 ?_
      refine lv_iadd X.1 X.2.1 dX12_stepsTo_56 ?_
      have h9 := hE
      exact r_iret X I (e_i h9.symm rfl rfl) dX12_stepsTo_57
  · skip
    have hE := ite_t hE c_1
    have ho := ite_tP ho c_1
    refine lv_iconst (v := 0) X.1 X.2.1 dX12_stepsTo_5 (by decide) ?_
    refine lv_goto (tgt := 15) X.1 X.2.1 dX12_stepsTo_6 (by decide) ?_
    refine lv_istore_n (lv' := [(3, .int _), (0, .ref _), (1, .int _), (2, .int _)]) X.1 X.2.1 dX12_stepsTo_15 rfl hl (by decide) rfl (fun ls hl => ?_)
    refine lv_iload_n X.1 X.2.1 dX12_stepsTo_16 rfl (lv_at hl 2 rfl) ?_
    refine lv_iconst (v := (-1)) X.1 X.2.1 dX12_stepsTo_17 (by decide) ?_
    refine lv_icmp_ne (tgt := 25) X.1 X.2.1 dX12_stepsTo_18 (by decide) (fun c_3 => ?_) (fun c_3 => ?_)
    · skip
      have hE := ite_f hE c_3
      have ho := ite_fP ho c_3
      refine lv_aload_n X.1 X.2.1 dX12_stepsTo_25 rfl (lv_at hl 1 rfl) ?_
      refine lv_iload_n X.1 X.2.1 dX12_stepsTo_26 rfl (lv_at hl 2 rfl) ?_
      refine lv_iconst (v := 1) X.1 X.2.1 dX12_stepsTo_27 (by decide) ?_
      have ho7 := ho.1
      have ho := ho.2
      refine r_ei I (r_runV X I pk_X12_of (c12_of l G _ _ _ _ ho7) lm_X12_270 (by decide) (cl_12 rfl) rfl rfl rfl hl.1 rfl (Nat.le_of_ble_eq_true rfl) dX12_stepsTo_28 ⟨Nat.le_of_ble_eq_true rfl, Nat.le_of_ble_eq_true rfl⟩ ⟨Nat.le_refl 0, Nat.le_refl 0⟩) (fun H locs I => ?_)
      refine lv_istore (lv' := [(4, .int _), (3, .int _), (0, .ref _), (1, .int _), (2, .int _)]) X.1 X.2.1 dX12_stepsTo_31 hl (by decide) rfl (fun ls hl => ?_)
      refine lv_aload_n X.1 X.2.1 dX12_stepsTo_33 rfl (lv_at hl 2 rfl) ?_
      refine lv_iload_n X.1 X.2.1 dX12_stepsTo_34 rfl (lv_at hl 4 rfl) ?_
      refine lv_iconst (v := 0) X.1 X.2.1 dX12_stepsTo_35 (by decide) ?_
      have ho8 := ho.1
      have ho := ho.2
      refine r_ei I (r_runV X I pk_X12_of (c12_of l G _ _ _ _ ho8) lm_X12_270 (by decide) (cl_12 rfl) rfl rfl rfl hl.1 rfl (Nat.le_of_ble_eq_true rfl) dX12_stepsTo_36 ⟨Nat.le_of_ble_eq_true rfl, Nat.le_of_ble_eq_true rfl⟩ ⟨Nat.le_refl 0, Nat.le_refl 0⟩) (fun H locs I => ?_)
      refine lv_iload_n X.1 X.2.1 dX12_stepsTo_39 rfl (lv_at hl 1 rfl) ?_
      refine lv_isub X.1 X.2.1 dX12_stepsTo_40 ?_
      refine r_mabs X hl.1 lm_X12_292 ls_J9_abs_0f7a4 ln_J9 lc_J9_abs_0f7a4 (Nat.le_of_ble_eq_true rfl) (Nat.le_of_ble_eq_true rfl) (Nat.le_refl 0) (Nat.le_refl 0) dX12_stepsTo_41 ?_
      refine lv_aload_n X.1 X.2.1 dX12_stepsTo_44 rfl (lv_at hl 2 rfl) ?_
      refine lv_iload_n X.1 X.2.1 dX12_stepsTo_45 rfl (lv_at hl 4 rfl) ?_
      refine lv_iconst (v := 1) X.1 X.2.1 dX12_stepsTo_46 (by decide) ?_
      have ho9 := ho.1
      have ho := ho.2
      refine r_ei I (r_runV X I pk_X12_of (c12_of l G _ _ _ _ ho9) lm_X12_270 (by decide) (cl_12 rfl) rfl rfl rfl hl.1 rfl (Nat.le_of_ble_eq_true rfl) dX12_stepsTo_47 ⟨Nat.le_of_ble_eq_true rfl, Nat.le_of_ble_eq_true rfl⟩ ⟨Nat.le_refl 0, Nat.le_refl 0⟩) (fun H locs I => ?_)
      refine lv_iload X.1 X.2.1 dX12_stepsTo_50 (lv_at hl 0 rfl) ?_
      refine lv_isub X.1 X.2.1 dX12_stepsTo_52 ?_
      refine r_mabs X hl.1 lm_X12_292 ls_J9_abs_0f7a4 ln_J9 lc_J9_abs_0f7a4 (Nat.le_of_ble_eq_true rfl) (Nat.le_of_ble_eq_true rfl) (Nat.le_refl 0) (Nat.le_refl 0) dX12_stepsTo_53 ?_
      refine lv_iadd X.1 X.2.1 dX12_stepsTo_56 ?_
      have h9 := hE
      exact r_iret X I (e_i h9.symm rfl rfl) dX12_stepsTo_57
    · skip
      have hE := ite_t hE c_3
      have ho := ite_tP ho c_3
      refine lv_iconst (v := 0) X.1 X.2.1 dX12_stepsTo_21 (by decide) ?_
      refine lv_goto (tgt := 31) X.1 X.2.1 dX12_stepsTo_22 (by decide) ?_
      refine lv_istore (lv' := [(4, .int _), (3, .int _), (0, .ref _), (1, .int _), (2, .int _)]) X.1 X.2.1 dX12_stepsTo_31 hl (by decide) rfl (fun ls hl => ?_)
      refine lv_aload_n X.1 X.2.1 dX12_stepsTo_33 rfl (lv_at hl 2 rfl) ?_
      refine lv_iload_n X.1 X.2.1 dX12_stepsTo_34 rfl (lv_at hl 4 rfl) ?_
      refine lv_iconst (v := 0) X.1 X.2.1 dX12_stepsTo_35 (by decide) ?_
      have ho10 := ho.1
      have ho := ho.2
      refine r_ei I (r_runV X I pk_X12_of (c12_of l G _ _ _ _ ho10) lm_X12_270 (by decide) (cl_12 rfl) rfl rfl rfl hl.1 rfl (Nat.le_of_ble_eq_true rfl) dX12_stepsTo_36 ⟨Nat.le_of_ble_eq_true rfl, Nat.le_of_ble_eq_true rfl⟩ ⟨Nat.le_refl 0, Nat.le_refl 0⟩) (fun H locs I => ?_)
      refine lv_iload_n X.1 X.2.1 dX12_stepsTo_39 rfl (lv_at hl 1 rfl) ?_
      refine lv_isub X.1 X.2.1 dX12_stepsTo_40 ?_
      refine r_mabs X hl.1 lm_X12_292 ls_J9_abs_0f7a4 ln_J9 lc_J9_abs_0f7a4 (Nat.le_of_ble_eq_true rfl) (Nat.le_of_ble_eq_true rfl) (Nat.le_refl 0) (Nat.le_refl 0) dX12_stepsTo_41 ?_
      refine lv_aload_n X.1 X.2.1 dX12_stepsTo_44 rfl (lv_at hl 2 rfl) ?_
      refine lv_iload_n X.1 X.2.1 dX12_stepsTo_45 rfl (lv_at hl 4 rfl) ?_
      refine lv_iconst (v := 1) X.1 X.2.1 dX12_stepsTo_46 (by decide) ?_
      have ho11 := ho.1
      have ho := ho.2
      refine r_ei I (r_runV X I pk_X12_of (c12_of l G _ _ _ _ ho11) lm_X12_270 (by decide) (cl_12 rfl) rfl rfl rfl hl.1 rfl (Nat.le_of_ble_eq_true rfl) dX12_stepsTo_47 ⟨Nat.le_of_ble_eq_true rfl, Nat.le_of_ble_eq_true rfl⟩ ⟨Nat.le_refl 0, Nat.le_refl 0⟩) (fun H locs I => ?_)
      refine lv_iload X.1 X.2.1 dX12_stepsTo_50 (lv_at hl 0 rfl) ?_
      refine lv_isub X.1 X.2.1 dX12_stepsTo_52 ?_
      refine r_mabs X hl.1 lm_X12_292 ls_J9_abs_0f7a4 ln_J9 lc_J9_abs_0f7a4 (Nat.le_of_ble_eq_true rfl) (Nat.le_of_ble_eq_true rfl) (Nat.le_refl 0) (Nat.le_refl 0) dX12_stepsTo_53 ?_
      refine lv_iadd X.1 X.2.1 dX12_stepsTo_56 ?_
      have h9 := hE
      exact r_iret X I (e_i h9.symm rfl rfl) dX12_stepsTo_57
