def f11_refused (σ : SI) (x1 : Int32) : Int32 × SI := if x1 < (0 : Int32) then ((-1 : Int32), σ) else (if (5 : Int32) ≤ x1 then ((-1 : Int32), σ) else (let s0 := sp σ 39 (Int32.toNatClampNeg x1) ((σ 39 (Int32.toNatClampNeg x1)) + (1 : Int32)); ((-1 : Int32), s0)))
theorem w_f11_refused (σ : SI) (x1 : Int32) (a : Nat) (h0 : a ≠ 39) : (f11_refused σ x1).2 a = σ a := by
  unfold f11_refused
  (repeat' split) <;> (first | rfl | (simp only [sp_n, su_n, ne_eq, not_false_eq_true, h0]; done) | (simp [sp_n, su_n, ne_eq, not_false_eq_true, h0]; done))
set_option maxHeartbeats 4000000 in
set_option maxRecDepth 100000 in
theorem c11_refused (l : Launch) (G : GT) (σ : SI) (τ : SL) (x1 : Int32) : Mc l yX11_refused cX11_refused 2 (some .int) 0 G [.ref (G.2.1 0), .int x1] σ τ (Qi G (Ei (f11_refused σ x1).1 (f11_refused σ x1).2 τ)) := by
  refine m_start (by decide +kernel) (Nat.le_of_ble_eq_true rfl) rfl (fun p e s m args below meth c ls X I hl => ?_)
  have hl : lv_has ls 2 [(0, .ref (G.2.1 0)), (1, .int x1)] := hl
  obtain ⟨E, hE⟩ : ∃ E, E = (f11_refused σ x1) := ⟨_, rfl⟩
  rw [← hE]
  refine lv_iload_n X.1 X.2.1 dX11_refused_0 rfl (lv_at hl 1 rfl) ?_
  refine lv_if_lt (tgt := 23) X.1 X.2.1 dX11_refused_1 (by decide) (fun c_1 => ?_) (fun c_1 => ?_)
  · skip
    refine lv_iconst (v := (-1)) X.1 X.2.1 dX11_refused_23 (by decide) ?_
    have h9 := hE.trans ((if_pos c_1).trans rfl)
    exact r_iret X I (e_i (congrArg Prod.fst h9).symm (congrArg Prod.snd h9).symm rfl) dX11_refused_24
  · skip
    refine lv_iload_n X.1 X.2.1 dX11_refused_4 rfl (lv_at hl 1 rfl) ?_
    refine lv_aload_n X.1 X.2.1 dX11_refused_5 rfl (lv_at hl 0 rfl) ?_
    refine g11_10 X I (k := 0) (by decide) rfl lf_X11_83 dX11_refused_6 ?_
    refine r_alen X I (k := 39) (n := 5) (by decide) rfl (v := 5) rfl dX11_refused_9 ?_
    refine lv_icmp_ge (tgt := 23) X.1 X.2.1 dX11_refused_10 (by decide) (fun c_2 => ?_) (fun c_2 => ?_)
    · skip
      refine lv_iconst (v := (-1)) X.1 X.2.1 dX11_refused_23 (by decide) ?_
      have h9 := hE.trans ((if_neg c_1).trans ((if_pos c_2).trans rfl))
      exact r_iret X I (e_i (congrArg Prod.fst h9).symm (congrArg Prod.snd h9).symm rfl) dX11_refused_24
    · skip
      refine lv_aload_n X.1 X.2.1 dX11_refused_13 rfl (lv_at hl 0 rfl) ?_
      refine g11_10 X I (k := 0) (by decide) rfl lf_X11_83 dX11_refused_14 ?_
      refine lv_iload_n X.1 X.2.1 dX11_refused_17 rfl (lv_at hl 1 rfl) ?_
      refine lv_dup2_11 X.1 X.2.1 dX11_refused_18 rfl rfl ?_
      refine r_ald X I (k := 39) (n := 5) (by decide) rfl (vp_g (n := 5) (by decide) c_1 c_2) dX11_refused_19 ?_
      refine lv_iconst (v := 1) X.1 X.2.1 dX11_refused_20 (by decide) ?_
      refine lv_iadd X.1 X.2.1 dX11_refused_21 ?_
      refine r_ast X I (k := 39) (n := 5) (by decide) rfl (vp_g (n := 5) (by decide) c_1 c_2) dX11_refused_22 (fun H locs I => ?_)
      refine lv_iconst (v := (-1)) X.1 X.2.1 dX11_refused_23 (by decide) ?_
      have h9 := hE.trans ((if_neg c_1).trans ((if_neg c_2).trans rfl))
      exact r_iret X I (e_i (congrArg Prod.fst h9).symm (congrArg Prod.snd h9).symm rfl) dX11_refused_24
def f11_carry (σ : SI) (x1 : Int32) : Int32 × SI := if (f8_isHouse 10 σ x1) = true then (if (σ 24 4) = x1 then (let r0 := (f11_refused σ (2 : Int32)); (r0.1, r0.2)) else (if (f0_wasAt 24 σ x1) = true then (let r6 := (f11_refused σ (2 : Int32)); (r6.1, r6.2)) else (let s1 := (f4_setOut σ); let r2 := (f4_comesTo s1 x1); if r2.1 = true then (let s3 := (f5_keep 24 r2.2); let r4 := (f11_arrived s3 x1); (r4.1, r4.2)) else (let r5 := (f11_refused r2.2 (4 : Int32)); (r5.1, r5.2))))) else (let r7 := (f11_refused σ (0 : Int32)); (r7.1, r7.2))
theorem w_f11_carry (σ : SI) (x1 : Int32) (a : Nat) (h0 : a ≠ 13) (h1 : a ≠ 15) (h2 : a ≠ 24) (h3 : a ≠ 25) (h4 : a ≠ 26) (h5 : a ≠ 28) (h6 : a ≠ 32) (h7 : a ≠ 39) (h8 : a ≠ (o_1k + 1)) (h9 : a ≠ o_1k) : (f11_carry σ x1).2 a = σ a := by
  unfold f11_carry
  (repeat' split) <;> (first | rfl | (simp only [sp_n, su_n, ne_eq, not_false_eq_true, h0, h1, h2, h3, h4, h5, h6, h7, h8, h9, w_f11_arrived, w_f11_refused, w_f4_comesTo, w_f4_setOut, w_f5_keep]; done) | (simp [sp_n, su_n, ne_eq, not_false_eq_true, h0, h1, h2, h3, h4, h5, h6, h7, h8, h9, w_f11_arrived, w_f11_refused, w_f4_comesTo, w_f4_setOut, w_f5_keep]; done))
set_option maxHeartbeats 4000000 in
set_option maxRecDepth 100000 in
theorem c11_carry (l : Launch) (G : GT) (σ : SI) (τ : SL) (x1 : Int32) : Mc l yX11_carry cX11_carry 2 (some .int) 7 G [.ref (G.2.1 0), .int x1] σ τ (Qi G (Ei (f11_carry σ x1).1 (f11_carry σ x1).2 τ)) := by
  refine m_start (by decide +kernel) (Nat.le_of_ble_eq_true rfl) rfl (fun p e s m args below meth c ls X I hl => ?_)
  have hl : lv_has ls 2 [(0, .ref (G.2.1 0)), (1, .int x1)] := hl
  obtain ⟨E, hE⟩ : ∃ E, E = (f11_carry σ x1) := ⟨_, rfl⟩
  rw [← hE]
  refine lv_aload_n X.1 X.2.1 dX11_carry_0 rfl (lv_at hl 0 rfl) ?_
  refine g11_3 X I (k := 0) (by decide) rfl lf_X11_35 dX11_carry_1 ?_
  refine lv_iload_n X.1 X.2.1 dX11_carry_4 rfl (lv_at hl 1 rfl) ?_
  refine r_ei I (r_runV X I pk_X8_isHouse (c8_isHouse l G (k := 10) ⟨by decide, rfl, rfl, rfl⟩ _ _ _) lm_X11_173 (by decide) (cl_8 rfl) rfl rfl rfl hl.1 rfl (Nat.le_of_ble_eq_true rfl) dX11_carry_5 ⟨Nat.le_of_ble_eq_true rfl, Nat.le_of_ble_eq_true rfl⟩ ⟨Nat.le_refl 0, Nat.le_refl 0⟩) (fun H locs I => ?_)
  refine lv_if_ne (tgt := 17) X.1 X.2.1 dX11_carry_8 (by decide) (fun c_1 => ?_) (fun c_1 => ?_)
  · skip
    refine lv_aload_n X.1 X.2.1 dX11_carry_17 rfl (lv_at hl 0 rfl) ?_
    refine g11_5 X I (k := 0) (by decide) rfl lf_X11_49 dX11_carry_18 ?_
    refine g0_4 X I (k := 24) (by decide) rfl lf_X11_213 dX11_carry_21 ?_
    refine lv_iload_n X.1 X.2.1 dX11_carry_24 rfl (lv_at hl 1 rfl) ?_
    refine lv_icmp_eq (tgt := 39) X.1 X.2.1 dX11_carry_25 (by decide) (fun c_2 => ?_) (fun c_2 => ?_)
    · skip
      refine lv_aload_n X.1 X.2.1 dX11_carry_39 rfl (lv_at hl 0 rfl) ?_
      refine lv_iconst (v := 2) X.1 X.2.1 dX11_carry_40 (by decide) ?_
      refine r_ei I (r_runV X I pk_X11_refused (c11_refused l G _ _ _) lm_X11_229 (by decide) (cl_11 rfl) rfl rfl rfl hl.1 rfl (Nat.le_of_ble_eq_true rfl) dX11_carry_41 ⟨Nat.le_of_ble_eq_true rfl, Nat.le_of_ble_eq_true rfl⟩ ⟨Nat.le_refl 0, Nat.le_refl 0⟩) (fun H locs I => ?_)
      have h9 := hE.trans ((if_pos (b2i_y c_1)).trans ((if_pos c_2).trans rfl))
      exact r_iret X I (e_i (congrArg Prod.fst h9).symm (congrArg Prod.snd h9).symm rfl) dX11_carry_44
    · skip
      refine lv_aload_n X.1 X.2.1 dX11_carry_28 rfl (lv_at hl 0 rfl) ?_
      refine g11_5 X I (k := 0) (by decide) rfl lf_X11_49 dX11_carry_29 ?_
      refine lv_iload_n X.1 X.2.1 dX11_carry_32 rfl (lv_at hl 1 rfl) ?_
      refine r_ei I (r_runV X I pk_X0_wasAt (c0_wasAt l G (k := 24) ⟨by decide, rfl, rfl⟩ _ _ _) lm_X11_191 (by decide) (cl_0 rfl) rfl rfl rfl hl.1 rfl (Nat.le_of_ble_eq_true rfl) dX11_carry_33 ⟨Nat.le_of_ble_eq_true rfl, Nat.le_of_ble_eq_true rfl⟩ ⟨Nat.le_refl 0, Nat.le_refl 0⟩) (fun H locs I => ?_)
      refine lv_if_eq (tgt := 45) X.1 X.2.1 dX11_carry_36 (by decide) (fun c_3 => ?_) (fun c_3 => ?_)
      · skip
        refine lv_aload_n X.1 X.2.1 dX11_carry_45 rfl (lv_at hl 0 rfl) ?_
        refine g11_7 X I (k := 0) (by decide) rfl lf_X11_65 dX11_carry_46 ?_
        refine r_ev I (r_runV X I pk_X4_setOut (c4_setOut l G _ _) lm_X11_232 (by decide) (cl_4 rfl) rfl rfl rfl hl.1 rfl (Nat.le_of_ble_eq_true rfl) dX11_carry_49 ⟨Nat.le_of_ble_eq_true rfl, Nat.le_of_ble_eq_true rfl⟩ ⟨Nat.le_refl 0, Nat.le_refl 0⟩) (fun H locs I => ?_)
        refine lv_aload_n X.1 X.2.1 dX11_carry_52 rfl (lv_at hl 0 rfl) ?_
        refine g11_7 X I (k := 0) (by decide) rfl lf_X11_65 dX11_carry_53 ?_
        refine lv_iload_n X.1 X.2.1 dX11_carry_56 rfl (lv_at hl 1 rfl) ?_
        refine r_ei I (r_runV X I pk_X4_comesTo (c4_comesTo l G _ _ _) lm_X11_235 (by decide) (cl_4 rfl) rfl rfl rfl hl.1 rfl (Nat.le_of_ble_eq_true rfl) dX11_carry_57 ⟨Nat.le_of_ble_eq_true rfl, Nat.le_of_ble_eq_true rfl⟩ ⟨Nat.le_refl 0, Nat.le_refl 0⟩) (fun H locs I => ?_)
        refine lv_if_ne (tgt := 69) X.1 X.2.1 dX11_carry_60 (by decide) (fun c_4 => ?_) (fun c_4 => ?_)
        · skip
          refine lv_aload_n X.1 X.2.1 dX11_carry_69 rfl (lv_at hl 0 rfl) ?_
          refine g11_6 X I (k := 0) (by decide) rfl lf_X11_56 dX11_carry_70 ?_
          refine lv_aload_n X.1 X.2.1 dX11_carry_73 rfl (lv_at hl 0 rfl) ?_
          refine g11_5 X I (k := 0) (by decide) rfl lf_X11_49 dX11_carry_74 ?_
          refine r_ev I (r_runV X I pk_X5_keep (c5_keep l G (k1 := 24) ⟨by decide, rfl, rfl⟩ _ _) lm_X11_238 (by decide) (cl_5 rfl) rfl rfl rfl hl.1 rfl (Nat.le_of_ble_eq_true rfl) dX11_carry_77 ⟨Nat.le_of_ble_eq_true rfl, Nat.le_of_ble_eq_true rfl⟩ ⟨Nat.le_refl 0, Nat.le_refl 0⟩) (fun H locs I => ?_)
          refine lv_aload_n X.1 X.2.1 dX11_carry_80 rfl (lv_at hl 0 rfl) ?_
          refine lv_iload_n X.1 X.2.1 dX11_carry_81 rfl (lv_at hl 1 rfl) ?_
          refine r_ei I (r_runV X I pk_X11_arrived (c11_arrived l G _ _ _) lm_X11_242 (by decide) (cl_11 rfl) rfl rfl rfl hl.1 rfl (Nat.le_of_ble_eq_true rfl) dX11_carry_82 ⟨Nat.le_of_ble_eq_true rfl, Nat.le_of_ble_eq_true rfl⟩ ⟨Nat.le_refl 0, Nat.le_refl 0⟩) (fun H locs I => ?_)
          have h9 := hE.trans ((if_pos (b2i_y c_1)).trans ((if_neg c_2).trans ((if_neg (b2i_n c_3)).trans ((if_pos (b2i_y c_4)).trans rfl))))
          exact r_iret X I (e_i (congrArg Prod.fst h9).symm (congrArg Prod.snd h9).symm rfl) dX11_carry_85
        · skip
          refine lv_aload_n X.1 X.2.1 dX11_carry_63 rfl (lv_at hl 0 rfl) ?_
          refine lv_iconst (v := 4) X.1 X.2.1 dX11_carry_64 (by decide) ?_
          refine r_ei I (r_runV X I pk_X11_refused (c11_refused l G _ _ _) lm_X11_229 (by decide) (cl_11 rfl) rfl rfl rfl hl.1 rfl (Nat.le_of_ble_eq_true rfl) dX11_carry_65 ⟨Nat.le_of_ble_eq_true rfl, Nat.le_of_ble_eq_true rfl⟩ ⟨Nat.le_refl 0, Nat.le_refl 0⟩) (fun H locs I => ?_)
          have h9 := hE.trans ((if_pos (b2i_y c_1)).trans ((if_neg c_2).trans ((if_neg (b2i_n c_3)).trans ((if_neg (b2i_n c_4)).trans rfl))))
          exact r_iret X I (e_i (congrArg Prod.fst h9).symm (congrArg Prod.snd h9).symm rfl) dX11_carry_68
      · skip
        refine lv_aload_n X.1 X.2.1 dX11_carry_39 rfl (lv_at hl 0 rfl) ?_
        refine lv_iconst (v := 2) X.1 X.2.1 dX11_carry_40 (by decide) ?_
        refine r_ei I (r_runV X I pk_X11_refused (c11_refused l G _ _ _) lm_X11_229 (by decide) (cl_11 rfl) rfl rfl rfl hl.1 rfl (Nat.le_of_ble_eq_true rfl) dX11_carry_41 ⟨Nat.le_of_ble_eq_true rfl, Nat.le_of_ble_eq_true rfl⟩ ⟨Nat.le_refl 0, Nat.le_refl 0⟩) (fun H locs I => ?_)
        have h9 := hE.trans ((if_pos (b2i_y c_1)).trans ((if_neg c_2).trans ((if_pos (b2i_y c_3)).trans rfl)))
        exact r_iret X I (e_i (congrArg Prod.fst h9).symm (congrArg Prod.snd h9).symm rfl) dX11_carry_44
  · skip
    refine lv_aload_n X.1 X.2.1 dX11_carry_11 rfl (lv_at hl 0 rfl) ?_
    refine lv_iconst (v := 0) X.1 X.2.1 dX11_carry_12 (by decide) ?_
    refine r_ei I (r_runV X I pk_X11_refused (c11_refused l G _ _ _) lm_X11_229 (by decide) (cl_11 rfl) rfl rfl rfl hl.1 rfl (Nat.le_of_ble_eq_true rfl) dX11_carry_13 ⟨Nat.le_of_ble_eq_true rfl, Nat.le_of_ble_eq_true rfl⟩ ⟨Nat.le_refl 0, Nat.le_refl 0⟩) (fun H locs I => ?_)
    have h9 := hE.trans ((if_neg (b2i_n c_1)).trans rfl)
    exact r_iret X I (e_i (congrArg Prod.fst h9).symm (congrArg Prod.snd h9).symm rfl) dX11_carry_16
def f11_rest (σ : SI) : Int32 × SI := if (f8_isTold 10 σ) = true then (if (σ 24 3) = (0 : Int32) then (let r4 := (f11_refused σ (2 : Int32)); (r4.1, r4.2)) else (if ((σ 24 2) + (5 : Int32)) ≤ (f8_timeThereIs 10 σ) then (let s0 := (f5_keep 24 σ); let s1 := sp s0 24 2 ((s0 24 2) + (5 : Int32)); let s2 := sp s1 24 3 (if (0 : Int32) < ((s0 24 3) - (10 : Int32)) then ((s0 24 3) - (10 : Int32)) else (0 : Int32)); ((if (0 : Int32) < ((s0 24 3) - (10 : Int32)) then ((s0 24 3) - (10 : Int32)) else (0 : Int32)), s2)) else (let r3 := (f11_refused σ (4 : Int32)); (r3.1, r3.2)))) else (let r5 := (f11_refused σ (0 : Int32)); (r5.1, r5.2))
theorem w_f11_rest (σ : SI) (a : Nat) (h0 : a ≠ 24) (h1 : a ≠ 26) (h2 : a ≠ 39) (h3 : a ≠ (o_1k + 1)) (h4 : a ≠ o_1k) : (f11_rest σ).2 a = σ a := by
  unfold f11_rest
  (repeat' split) <;> (first | rfl | (simp only [sp_n, su_n, ne_eq, not_false_eq_true, h0, h1, h2, h3, h4, w_f11_refused, w_f5_keep]; done) | (simp [sp_n, su_n, ne_eq, not_false_eq_true, h0, h1, h2, h3, h4, w_f11_refused, w_f5_keep]; done))
set_option maxHeartbeats 4000000 in
set_option maxRecDepth 100000 in
theorem c11_rest (l : Launch) (G : GT) (σ : SI) (τ : SL) : Mc l yX11_rest cX11_rest 1 (some .int) 4 G [.ref (G.2.1 0)] σ τ (Qi G (Ei (f11_rest σ).1 (f11_rest σ).2 τ)) := by
  refine m_start (by decide +kernel) (Nat.le_of_ble_eq_true rfl) rfl (fun p e s m args below meth c ls X I hl => ?_)
  have hl : lv_has ls 1 [(0, .ref (G.2.1 0))] := hl
  obtain ⟨E, hE⟩ : ∃ E, E = (f11_rest σ) := ⟨_, rfl⟩
  rw [← hE]
  refine lv_aload_n X.1 X.2.1 dX11_rest_0 rfl (lv_at hl 0 rfl) ?_
  refine g11_3 X I (k := 0) (by decide) rfl lf_X11_35 dX11_rest_1 ?_
  refine r_ei I (r_runV X I pk_X8_isTold (c8_isTold l G (k := 10) ⟨by decide, rfl, rfl, rfl⟩ _ _) lm_X11_158 (by decide) (cl_8 rfl) rfl rfl rfl hl.1 rfl (Nat.le_of_ble_eq_true rfl) dX11_rest_4 ⟨Nat.le_of_ble_eq_true rfl, Nat.le_of_ble_eq_true rfl⟩ ⟨Nat.le_refl 0, Nat.le_refl 0⟩) (fun H locs I => ?_)
  refine lv_if_ne (tgt := 16) X.1 X.2.1 dX11_rest_7 (by decide) (fun c_1 => ?_) (fun c_1 => ?_)
  · skip
    refine lv_aload_n X.1 X.2.1 dX11_rest_16 rfl (lv_at hl 0 rfl) ?_
    refine g11_5 X I (k := 0) (by decide) rfl lf_X11_49 dX11_rest_17 ?_
    refine g0_3 X I (k := 24) (by decide) rfl lf_X11_252 dX11_rest_20 ?_
    refine lv_if_ne (tgt := 32) X.1 X.2.1 dX11_rest_23 (by decide) (fun c_2 => ?_) (fun c_2 => ?_)
    · skip
      refine lv_aload_n X.1 X.2.1 dX11_rest_32 rfl (lv_at hl 0 rfl) ?_
      refine g11_5 X I (k := 0) (by decide) rfl lf_X11_49 dX11_rest_33 ?_
      refine g0_2 X I (k := 24) (by decide) rfl lf_X11_216 dX11_rest_36 ?_
      refine lv_iconst (v := 5) X.1 X.2.1 dX11_rest_39 (by decide) ?_
      refine lv_iadd X.1 X.2.1 dX11_rest_40 ?_
      refine lv_aload_n X.1 X.2.1 dX11_rest_41 rfl (lv_at hl 0 rfl) ?_
      refine g11_3 X I (k := 0) (by decide) rfl lf_X11_35 dX11_rest_42 ?_
      refine r_ei I (r_runV X I pk_X8_timeThereIs (c8_timeThereIs l G (k := 10) ⟨by decide, rfl, rfl, rfl⟩ _ _) lm_X11_161 (by decide) (cl_8 rfl) rfl rfl rfl hl.1 rfl (Nat.le_of_ble_eq_true rfl) dX11_rest_45 ⟨Nat.le_of_ble_eq_true rfl, Nat.le_of_ble_eq_true rfl⟩ ⟨Nat.le_refl 0, Nat.le_refl 0⟩) (fun H locs I => ?_)
      refine lv_icmp_le (tgt := 57) X.1 X.2.1 dX11_rest_48 (by decide) (fun c_3 => ?_) (fun c_3 => ?_)
      · skip
        refine lv_aload_n X.1 X.2.1 dX11_rest_57 rfl (lv_at hl 0 rfl) ?_
        refine g11_6 X I (k := 0) (by decide) rfl lf_X11_56 dX11_rest_58 ?_
        refine lv_aload_n X.1 X.2.1 dX11_rest_61 rfl (lv_at hl 0 rfl) ?_
        refine g11_5 X I (k := 0) (by decide) rfl lf_X11_49 dX11_rest_62 ?_
        refine r_ev I (r_runV X I pk_X5_keep (c5_keep l G (k1 := 24) ⟨by decide, rfl, rfl⟩ _ _) lm_X11_238 (by decide) (cl_5 rfl) rfl rfl rfl hl.1 rfl (Nat.le_of_ble_eq_true rfl) dX11_rest_65 ⟨Nat.le_of_ble_eq_true rfl, Nat.le_of_ble_eq_true rfl⟩ ⟨Nat.le_refl 0, Nat.le_refl 0⟩) (fun H locs I => ?_)
        refine lv_aload_n X.1 X.2.1 dX11_rest_68 rfl (lv_at hl 0 rfl) ?_
        refine g11_5 X I (k := 0) (by decide) rfl lf_X11_49 dX11_rest_69 ?_
        refine lv_dup X.1 X.2.1 dX11_rest_72 rfl ?_
        refine g0_2 X I (k := 24) (by decide) rfl lf_X11_216 dX11_rest_73 ?_
        refine lv_iconst (v := 5) X.1 X.2.1 dX11_rest_76 (by decide) ?_
        refine lv_iadd X.1 X.2.1 dX11_rest_77 ?_
        refine p0_2 X I (k := 24) (by decide) rfl lf_X11_216 dX11_rest_78 (fun H locs I => ?_)
        refine lv_aload_n X.1 X.2.1 dX11_rest_81 rfl (lv_at hl 0 rfl) ?_
        refine g11_5 X I (k := 0) (by decide) rfl lf_X11_49 dX11_rest_82 ?_
        refine lv_iconst (v := 0) X.1 X.2.1 dX11_rest_85 (by decide) ?_
        refine lv_aload_n X.1 X.2.1 dX11_rest_86 rfl (lv_at hl 0 rfl) ?_
        refine g11_5 X I (k := 0) (by decide) rfl lf_X11_49 dX11_rest_87 ?_
        refine g0_3 X I (k := 24) (by decide) rfl lf_X11_252 dX11_rest_90 ?_
        refine lv_bipush (v := 10) X.1 X.2.1 dX11_rest_93 (by decide) ?_
        refine lv_isub X.1 X.2.1 dX11_rest_95 ?_
        refine r_mmax X hl.1 lm_X11_272 ls_J9_max_7cf53 ln_J9 lc_J9_max_7cf53 (Nat.le_of_ble_eq_true rfl) (Nat.le_of_ble_eq_true rfl) (Nat.le_refl 0) (Nat.le_refl 0) dX11_rest_96 ?_
        refine p0_3 X I (k := 24) (by decide) rfl lf_X11_252 dX11_rest_99 (fun H locs I => ?_)
        refine lv_aload_n X.1 X.2.1 dX11_rest_102 rfl (lv_at hl 0 rfl) ?_
        refine g11_5 X I (k := 0) (by decide) rfl lf_X11_49 dX11_rest_103 ?_
        refine g0_3 X I (k := 24) (by decide) rfl lf_X11_252 dX11_rest_106 ?_
        have h9 := hE.trans ((if_pos (b2i_y c_1)).trans ((if_neg c_2).trans ((if_pos c_3).trans rfl)))
        exact r_iret X I (e_i (congrArg Prod.fst h9).symm (congrArg Prod.snd h9).symm rfl) dX11_rest_109
      · skip
        refine lv_aload_n X.1 X.2.1 dX11_rest_51 rfl (lv_at hl 0 rfl) ?_
        refine lv_iconst (v := 4) X.1 X.2.1 dX11_rest_52 (by decide) ?_
        refine r_ei I (r_runV X I pk_X11_refused (c11_refused l G _ _ _) lm_X11_229 (by decide) (cl_11 rfl) rfl rfl rfl hl.1 rfl (Nat.le_of_ble_eq_true rfl) dX11_rest_53 ⟨Nat.le_of_ble_eq_true rfl, Nat.le_of_ble_eq_true rfl⟩ ⟨Nat.le_refl 0, Nat.le_refl 0⟩) (fun H locs I => ?_)
        have h9 := hE.trans ((if_pos (b2i_y c_1)).trans ((if_neg c_2).trans ((if_neg c_3).trans rfl)))
        exact r_iret X I (e_i (congrArg Prod.fst h9).symm (congrArg Prod.snd h9).symm rfl) dX11_rest_56
    · skip
      refine lv_aload_n X.1 X.2.1 dX11_rest_26 rfl (lv_at hl 0 rfl) ?_
      refine lv_iconst (v := 2) X.1 X.2.1 dX11_rest_27 (by decide) ?_
      refine r_ei I (r_runV X I pk_X11_refused (c11_refused l G _ _ _) lm_X11_229 (by decide) (cl_11 rfl) rfl rfl rfl hl.1 rfl (Nat.le_of_ble_eq_true rfl) dX11_rest_28 ⟨Nat.le_of_ble_eq_true rfl, Nat.le_of_ble_eq_true rfl⟩ ⟨Nat.le_refl 0, Nat.le_refl 0⟩) (fun H locs I => ?_)
      have h9 := hE.trans ((if_pos (b2i_y c_1)).trans ((if_pos c_2).trans rfl))
      exact r_iret X I (e_i (congrArg Prod.fst h9).symm (congrArg Prod.snd h9).symm rfl) dX11_rest_31
  · skip
    refine lv_aload_n X.1 X.2.1 dX11_rest_10 rfl (lv_at hl 0 rfl) ?_
    refine lv_iconst (v := 0) X.1 X.2.1 dX11_rest_11 (by decide) ?_
    refine r_ei I (r_runV X I pk_X11_refused (c11_refused l G _ _ _) lm_X11_229 (by decide) (cl_11 rfl) rfl rfl rfl hl.1 rfl (Nat.le_of_ble_eq_true rfl) dX11_rest_12 ⟨Nat.le_of_ble_eq_true rfl, Nat.le_of_ble_eq_true rfl⟩ ⟨Nat.le_refl 0, Nat.le_refl 0⟩) (fun H locs I => ?_)
    have h9 := hE.trans ((if_neg (b2i_n c_1)).trans rfl)
    exact r_iret X I (e_i (congrArg Prod.fst h9).symm (congrArg Prod.snd h9).symm rfl) dX11_rest_15
def f11_gift (σ : SI) (x1 : Int32) (x2 : Int32) : Int32 × SI := if (f8_isHouse 10 σ x1) = true then (if x2 < (1 : Int32) then (let r0 := (f11_refused σ (1 : Int32)); (r0.1, r0.2)) else (if (30 : Int32) < x2 then (let r1 := (f11_refused σ (1 : Int32)); (r1.1, r1.2)) else (if x2 ≤ (f0_grievanceOf 24 σ x1) then (if x2 ≤ (σ 24 1) then (let s2 := (f5_keep 24 σ); let s3 := sp s2 24 1 ((s2 24 1) - x2); let s4 := (f0_setGrievance 24 s3 x1 ((f0_grievanceOf 24 s3 x1) - x2)); ((f0_grievanceOf 24 s4 x1), s4)) else (let r5 := (f11_refused σ (3 : Int32)); (r5.1, r5.2))) else (let r6 := (f11_refused σ (1 : Int32)); (r6.1, r6.2))))) else (let r7 := (f11_refused σ (0 : Int32)); (r7.1, r7.2))
theorem w_f11_gift (σ : SI) (x1 : Int32) (x2 : Int32) (a : Nat) (h0 : a ≠ 24) (h1 : a ≠ 25) (h2 : a ≠ 26) (h3 : a ≠ 39) (h4 : a ≠ (o_1k + 1)) (h5 : a ≠ o_1k) : (f11_gift σ x1 x2).2 a = σ a := by
  unfold f11_gift
  (repeat' split) <;> (first | rfl | (simp only [sp_n, su_n, ne_eq, not_false_eq_true, h0, h1, h2, h3, h4, h5, w_f0_setGrievance, w_f11_refused, w_f5_keep]; done) | (simp [sp_n, su_n, ne_eq, not_false_eq_true, h0, h1, h2, h3, h4, h5, w_f0_setGrievance, w_f11_refused, w_f5_keep]; done))
set_option maxHeartbeats 4000000 in
set_option maxRecDepth 100000 in
theorem c11_gift (l : Launch) (G : GT) (σ : SI) (τ : SL) (x1 : Int32) (x2 : Int32) : Mc l yX11_gift cX11_gift 3 (some .int) 4 G [.ref (G.2.1 0), .int x1, .int x2] σ τ (Qi G (Ei (f11_gift σ x1 x2).1 (f11_gift σ x1 x2).2 τ)) := by
  refine m_start (by decide +kernel) (Nat.le_of_ble_eq_true rfl) rfl (fun p e s m args below meth c ls X I hl => ?_)
  have hl : lv_has ls 3 [(0, .ref (G.2.1 0)), (1, .int x1), (2, .int x2)] := hl
  obtain ⟨E, hE⟩ : ∃ E, E = (f11_gift σ x1 x2) := ⟨_, rfl⟩
  rw [← hE]
  refine lv_aload_n X.1 X.2.1 dX11_gift_0 rfl (lv_at hl 0 rfl) ?_
  refine g11_3 X I (k := 0) (by decide) rfl lf_X11_35 dX11_gift_1 ?_
  refine lv_iload_n X.1 X.2.1 dX11_gift_4 rfl (lv_at hl 1 rfl) ?_
  refine r_ei I (r_runV X I pk_X8_isHouse (c8_isHouse l G (k := 10) ⟨by decide, rfl, rfl, rfl⟩ _ _ _) lm_X11_173 (by decide) (cl_8 rfl) rfl rfl rfl hl.1 rfl (Nat.le_of_ble_eq_true rfl) dX11_gift_5 ⟨Nat.le_of_ble_eq_true rfl, Nat.le_of_ble_eq_true rfl⟩ ⟨Nat.le_refl 0, Nat.le_refl 0⟩) (fun H locs I => ?_)
  refine lv_if_ne (tgt := 17) X.1 X.2.1 dX11_gift_8 (by decide) (fun c_1 => ?_) (fun c_1 => ?_)
  · skip
    refine lv_iload_n X.1 X.2.1 dX11_gift_17 rfl (lv_at hl 2 rfl) ?_
    refine lv_iconst (v := 1) X.1 X.2.1 dX11_gift_18 (by decide) ?_
    refine lv_icmp_lt (tgt := 40) X.1 X.2.1 dX11_gift_19 (by decide) (fun c_2 => ?_) (fun c_2 => ?_)
    · skip
      refine lv_aload_n X.1 X.2.1 dX11_gift_40 rfl (lv_at hl 0 rfl) ?_
      refine lv_iconst (v := 1) X.1 X.2.1 dX11_gift_41 (by decide) ?_
      refine r_ei I (r_runV X I pk_X11_refused (c11_refused l G _ _ _) lm_X11_229 (by decide) (cl_11 rfl) rfl rfl rfl hl.1 rfl (Nat.le_of_ble_eq_true rfl) dX11_gift_42 ⟨Nat.le_of_ble_eq_true rfl, Nat.le_of_ble_eq_true rfl⟩ ⟨Nat.le_refl 0, Nat.le_refl 0⟩) (fun H locs I => ?_)
      have h9 := hE.trans ((if_pos (b2i_y c_1)).trans ((if_pos c_2).trans rfl))
      exact r_iret X I (e_i (congrArg Prod.fst h9).symm (congrArg Prod.snd h9).symm rfl) dX11_gift_45
    · skip
      refine lv_iload_n X.1 X.2.1 dX11_gift_22 rfl (lv_at hl 2 rfl) ?_
      refine lv_bipush (v := 30) X.1 X.2.1 dX11_gift_23 (by decide) ?_
      refine lv_icmp_gt (tgt := 40) X.1 X.2.1 dX11_gift_25 (by decide) (fun c_3 => ?_) (fun c_3 => ?_)
      · skip
        refine lv_aload_n X.1 X.2.1 dX11_gift_40 rfl (lv_at hl 0 rfl) ?_
        refine lv_iconst (v := 1) X.1 X.2.1 dX11_gift_41 (by decide) ?_
        refine r_ei I (r_runV X I pk_X11_refused (c11_refused l G _ _ _) lm_X11_229 (by decide) (cl_11 rfl) rfl rfl rfl hl.1 rfl (Nat.le_of_ble_eq_true rfl) dX11_gift_42 ⟨Nat.le_of_ble_eq_true rfl, Nat.le_of_ble_eq_true rfl⟩ ⟨Nat.le_refl 0, Nat.le_refl 0⟩) (fun H locs I => ?_)
        have h9 := hE.trans ((if_pos (b2i_y c_1)).trans ((if_neg c_2).trans ((if_pos c_3).trans rfl)))
        exact r_iret X I (e_i (congrArg Prod.fst h9).symm (congrArg Prod.snd h9).symm rfl) dX11_gift_45
      · skip
        refine lv_iload_n X.1 X.2.1 dX11_gift_28 rfl (lv_at hl 2 rfl) ?_
        refine lv_aload_n X.1 X.2.1 dX11_gift_29 rfl (lv_at hl 0 rfl) ?_
        refine g11_5 X I (k := 0) (by decide) rfl lf_X11_49 dX11_gift_30 ?_
        refine lv_iload_n X.1 X.2.1 dX11_gift_33 rfl (lv_at hl 1 rfl) ?_
        refine r_ei I (r_runV X I pk_X0_grievanceOf (c0_grievanceOf l G (k := 24) ⟨by decide, rfl, rfl⟩ _ _ _) lm_X11_185 (by decide) (cl_0 rfl) rfl rfl rfl hl.1 rfl (Nat.le_of_ble_eq_true rfl) dX11_gift_34 ⟨Nat.le_of_ble_eq_true rfl, Nat.le_of_ble_eq_true rfl⟩ ⟨Nat.le_refl 0, Nat.le_refl 0⟩) (fun H locs I => ?_)
        refine lv_icmp_le (tgt := 46) X.1 X.2.1 dX11_gift_37 (by decide) (fun c_4 => ?_) (fun c_4 => ?_)
        · skip
          refine lv_iload_n X.1 X.2.1 dX11_gift_46 rfl (lv_at hl 2 rfl) ?_
          refine lv_aload_n X.1 X.2.1 dX11_gift_47 rfl (lv_at hl 0 rfl) ?_
          refine g11_5 X I (k := 0) (by decide) rfl lf_X11_49 dX11_gift_48 ?_
          refine g0_1 X I (k := 24) (by decide) rfl lf_X11_164 dX11_gift_51 ?_
          refine lv_icmp_le (tgt := 63) X.1 X.2.1 dX11_gift_54 (by decide) (fun c_5 => ?_) (fun c_5 => ?_)
          · skip
            refine lv_aload_n X.1 X.2.1 dX11_gift_63 rfl (lv_at hl 0 rfl) ?_
            refine g11_6 X I (k := 0) (by decide) rfl lf_X11_56 dX11_gift_64 ?_
            refine lv_aload_n X.1 X.2.1 dX11_gift_67 rfl (lv_at hl 0 rfl) ?_
            refine g11_5 X I (k := 0) (by decide) rfl lf_X11_49 dX11_gift_68 ?_
            refine r_ev I (r_runV X I pk_X5_keep (c5_keep l G (k1 := 24) ⟨by decide, rfl, rfl⟩ _ _) lm_X11_238 (by decide) (cl_5 rfl) rfl rfl rfl hl.1 rfl (Nat.le_of_ble_eq_true rfl) dX11_gift_71 ⟨Nat.le_of_ble_eq_true rfl, Nat.le_of_ble_eq_true rfl⟩ ⟨Nat.le_refl 0, Nat.le_refl 0⟩) (fun H locs I => ?_)
            refine lv_aload_n X.1 X.2.1 dX11_gift_74 rfl (lv_at hl 0 rfl) ?_
            refine g11_5 X I (k := 0) (by decide) rfl lf_X11_49 dX11_gift_75 ?_
            refine lv_dup X.1 X.2.1 dX11_gift_78 rfl ?_
            refine g0_1 X I (k := 24) (by decide) rfl lf_X11_164 dX11_gift_79 ?_
            refine lv_iload_n X.1 X.2.1 dX11_gift_82 rfl (lv_at hl 2 rfl) ?_
            refine lv_isub X.1 X.2.1 dX11_gift_83 ?_
            refine p0_1 X I (k := 24) (by decide) rfl lf_X11_164 dX11_gift_84 (fun H locs I => ?_)
            refine lv_aload_n X.1 X.2.1 dX11_gift_87 rfl (lv_at hl 0 rfl) ?_
            refine g11_5 X I (k := 0) (by decide) rfl lf_X11_49 dX11_gift_88 ?_
            refine lv_iload_n X.1 X.2.1 dX11_gift_91 rfl (lv_at hl 1 rfl) ?_
            refine lv_aload_n X.1 X.2.1 dX11_gift_92 rfl (lv_at hl 0 rfl) ?_
            refine g11_5 X I (k := 0) (by decide) rfl lf_X11_49 dX11_gift_93 ?_
            refine lv_iload_n X.1 X.2.1 dX11_gift_96 rfl (lv_at hl 1 rfl) ?_
            refine r_ei I (r_runV X I pk_X0_grievanceOf (c0_grievanceOf l G (k := 24) ⟨by decide, rfl, rfl⟩ _ _ _) lm_X11_185 (by decide) (cl_0 rfl) rfl rfl rfl hl.1 rfl (Nat.le_of_ble_eq_true rfl) dX11_gift_97 ⟨Nat.le_of_ble_eq_true rfl, Nat.le_of_ble_eq_true rfl⟩ ⟨Nat.le_refl 0, Nat.le_refl 0⟩) (fun H locs I => ?_)
            refine lv_iload_n X.1 X.2.1 dX11_gift_100 rfl (lv_at hl 2 rfl) ?_
            refine lv_isub X.1 X.2.1 dX11_gift_101 ?_
            refine r_ev I (r_runV X I pk_X0_setGrievance (c0_setGrievance l G (k := 24) ⟨by decide, rfl, rfl⟩ _ _ _ _) lm_X11_258 (by decide) (cl_0 rfl) rfl rfl rfl hl.1 rfl (Nat.le_of_ble_eq_true rfl) dX11_gift_102 ⟨Nat.le_of_ble_eq_true rfl, Nat.le_of_ble_eq_true rfl⟩ ⟨Nat.le_refl 0, Nat.le_refl 0⟩) (fun H locs I => ?_)
            refine lv_aload_n X.1 X.2.1 dX11_gift_105 rfl (lv_at hl 0 rfl) ?_
            refine g11_5 X I (k := 0) (by decide) rfl lf_X11_49 dX11_gift_106 ?_
            refine lv_iload_n X.1 X.2.1 dX11_gift_109 rfl (lv_at hl 1 rfl) ?_
            refine r_ei I (r_runV X I pk_X0_grievanceOf (c0_grievanceOf l G (k := 24) ⟨by decide, rfl, rfl⟩ _ _ _) lm_X11_185 (by decide) (cl_0 rfl) rfl rfl rfl hl.1 rfl (Nat.le_of_ble_eq_true rfl) dX11_gift_110 ⟨Nat.le_of_ble_eq_true rfl, Nat.le_of_ble_eq_true rfl⟩ ⟨Nat.le_refl 0, Nat.le_refl 0⟩) (fun H locs I => ?_)
            have h9 := hE.trans ((if_pos (b2i_y c_1)).trans ((if_neg c_2).trans ((if_neg c_3).trans ((if_pos c_4).trans ((if_pos c_5).trans rfl)))))
            exact r_iret X I (e_i (congrArg Prod.fst h9).symm (congrArg Prod.snd h9).symm rfl) dX11_gift_113
          · skip
            refine lv_aload_n X.1 X.2.1 dX11_gift_57 rfl (lv_at hl 0 rfl) ?_
            refine lv_iconst (v := 3) X.1 X.2.1 dX11_gift_58 (by decide) ?_
            refine r_ei I (r_runV X I pk_X11_refused (c11_refused l G _ _ _) lm_X11_229 (by decide) (cl_11 rfl) rfl rfl rfl hl.1 rfl (Nat.le_of_ble_eq_true rfl) dX11_gift_59 ⟨Nat.le_of_ble_eq_true rfl, Nat.le_of_ble_eq_true rfl⟩ ⟨Nat.le_refl 0, Nat.le_refl 0⟩) (fun H locs I => ?_)
            have h9 := hE.trans ((if_pos (b2i_y c_1)).trans ((if_neg c_2).trans ((if_neg c_3).trans ((if_pos c_4).trans ((if_neg c_5).trans rfl)))))
            exact r_iret X I (e_i (congrArg Prod.fst h9).symm (congrArg Prod.snd h9).symm rfl) dX11_gift_62
        · skip
          refine lv_aload_n X.1 X.2.1 dX11_gift_40 rfl (lv_at hl 0 rfl) ?_
          refine lv_iconst (v := 1) X.1 X.2.1 dX11_gift_41 (by decide) ?_
          refine r_ei I (r_runV X I pk_X11_refused (c11_refused l G _ _ _) lm_X11_229 (by decide) (cl_11 rfl) rfl rfl rfl hl.1 rfl (Nat.le_of_ble_eq_true rfl) dX11_gift_42 ⟨Nat.le_of_ble_eq_true rfl, Nat.le_of_ble_eq_true rfl⟩ ⟨Nat.le_refl 0, Nat.le_refl 0⟩) (fun H locs I => ?_)
          have h9 := hE.trans ((if_pos (b2i_y c_1)).trans ((if_neg c_2).trans ((if_neg c_3).trans ((if_neg c_4).trans rfl))))
          exact r_iret X I (e_i (congrArg Prod.fst h9).symm (congrArg Prod.snd h9).symm rfl) dX11_gift_45
  · skip
    refine lv_aload_n X.1 X.2.1 dX11_gift_11 rfl (lv_at hl 0 rfl) ?_
    refine lv_iconst (v := 0) X.1 X.2.1 dX11_gift_12 (by decide) ?_
    refine r_ei I (r_runV X I pk_X11_refused (c11_refused l G _ _ _) lm_X11_229 (by decide) (cl_11 rfl) rfl rfl rfl hl.1 rfl (Nat.le_of_ble_eq_true rfl) dX11_gift_13 ⟨Nat.le_of_ble_eq_true rfl, Nat.le_of_ble_eq_true rfl⟩ ⟨Nat.le_refl 0, Nat.le_refl 0⟩) (fun H locs I => ?_)
    have h9 := hE.trans ((if_neg (b2i_n c_1)).trans rfl)
    exact r_iret X I (e_i (congrArg Prod.fst h9).symm (congrArg Prod.snd h9).symm rfl) dX11_gift_16
def f11_give (σ : SI) (x1 : Int32) : Int32 × SI := if (f8_isTold 10 σ) = true then (if x1 < (1 : Int32) then (let r0 := (f11_refused σ (1 : Int32)); (r0.1, r0.2)) else (if (50 : Int32) < x1 then (let r1 := (f11_refused σ (1 : Int32)); (r1.1, r1.2)) else (if x1 ≤ ((999 : Int32) - (σ 24 1)) then (let s2 := (f5_keep 24 σ); let s3 := sp s2 24 1 ((s2 24 1) + x1); (((s2 24 1) + x1), s3)) else (let r4 := (f11_refused σ (1 : Int32)); (r4.1, r4.2))))) else (let r5 := (f11_refused σ (0 : Int32)); (r5.1, r5.2))
theorem w_f11_give (σ : SI) (x1 : Int32) (a : Nat) (h0 : a ≠ 24) (h1 : a ≠ 26) (h2 : a ≠ 39) (h3 : a ≠ (o_1k + 1)) (h4 : a ≠ o_1k) : (f11_give σ x1).2 a = σ a := by
  unfold f11_give
  (repeat' split) <;> (first | rfl | (simp only [sp_n, su_n, ne_eq, not_false_eq_true, h0, h1, h2, h3, h4, w_f11_refused, w_f5_keep]; done) | (simp [sp_n, su_n, ne_eq, not_false_eq_true, h0, h1, h2, h3, h4, w_f11_refused, w_f5_keep]; done))
set_option maxHeartbeats 4000000 in
set_option maxRecDepth 100000 in
theorem c11_give (l : Launch) (G : GT) (σ : SI) (τ : SL) (x1 : Int32) : Mc l yX11_give cX11_give 2 (some .int) 4 G [.ref (G.2.1 0), .int x1] σ τ (Qi G (Ei (f11_give σ x1).1 (f11_give σ x1).2 τ)) := by
  refine m_start (by decide +kernel) (Nat.le_of_ble_eq_true rfl) rfl (fun p e s m args below meth c ls X I hl => ?_)
  have hl : lv_has ls 2 [(0, .ref (G.2.1 0)), (1, .int x1)] := hl
  obtain ⟨E, hE⟩ : ∃ E, E = (f11_give σ x1) := ⟨_, rfl⟩
  rw [← hE]
  refine lv_aload_n X.1 X.2.1 dX11_give_0 rfl (lv_at hl 0 rfl) ?_
  refine g11_3 X I (k := 0) (by decide) rfl lf_X11_35 dX11_give_1 ?_
  refine r_ei I (r_runV X I pk_X8_isTold (c8_isTold l G (k := 10) ⟨by decide, rfl, rfl, rfl⟩ _ _) lm_X11_158 (by decide) (cl_8 rfl) rfl rfl rfl hl.1 rfl (Nat.le_of_ble_eq_true rfl) dX11_give_4 ⟨Nat.le_of_ble_eq_true rfl, Nat.le_of_ble_eq_true rfl⟩ ⟨Nat.le_refl 0, Nat.le_refl 0⟩) (fun H locs I => ?_)
  refine lv_if_ne (tgt := 16) X.1 X.2.1 dX11_give_7 (by decide) (fun c_1 => ?_) (fun c_1 => ?_)
  · skip
    refine lv_iload_n X.1 X.2.1 dX11_give_16 rfl (lv_at hl 1 rfl) ?_
    refine lv_iconst (v := 1) X.1 X.2.1 dX11_give_17 (by decide) ?_
    refine lv_icmp_lt (tgt := 42) X.1 X.2.1 dX11_give_18 (by decide) (fun c_2 => ?_) (fun c_2 => ?_)
    · skip
      refine lv_aload_n X.1 X.2.1 dX11_give_42 rfl (lv_at hl 0 rfl) ?_
      refine lv_iconst (v := 1) X.1 X.2.1 dX11_give_43 (by decide) ?_
      refine r_ei I (r_runV X I pk_X11_refused (c11_refused l G _ _ _) lm_X11_229 (by decide) (cl_11 rfl) rfl rfl rfl hl.1 rfl (Nat.le_of_ble_eq_true rfl) dX11_give_44 ⟨Nat.le_of_ble_eq_true rfl, Nat.le_of_ble_eq_true rfl⟩ ⟨Nat.le_refl 0, Nat.le_refl 0⟩) (fun H locs I => ?_)
      have h9 := hE.trans ((if_pos (b2i_y c_1)).trans ((if_pos c_2).trans rfl))
      exact r_iret X I (e_i (congrArg Prod.fst h9).symm (congrArg Prod.snd h9).symm rfl) dX11_give_47
    · skip
      refine lv_iload_n X.1 X.2.1 dX11_give_21 rfl (lv_at hl 1 rfl) ?_
      refine lv_bipush (v := 50) X.1 X.2.1 dX11_give_22 (by decide) ?_
      refine lv_icmp_gt (tgt := 42) X.1 X.2.1 dX11_give_24 (by decide) (fun c_3 => ?_) (fun c_3 => ?_)
      · skip
        refine lv_aload_n X.1 X.2.1 dX11_give_42 rfl (lv_at hl 0 rfl) ?_
        refine lv_iconst (v := 1) X.1 X.2.1 dX11_give_43 (by decide) ?_
        refine r_ei I (r_runV X I pk_X11_refused (c11_refused l G _ _ _) lm_X11_229 (by decide) (cl_11 rfl) rfl rfl rfl hl.1 rfl (Nat.le_of_ble_eq_true rfl) dX11_give_44 ⟨Nat.le_of_ble_eq_true rfl, Nat.le_of_ble_eq_true rfl⟩ ⟨Nat.le_refl 0, Nat.le_refl 0⟩) (fun H locs I => ?_)
        have h9 := hE.trans ((if_pos (b2i_y c_1)).trans ((if_neg c_2).trans ((if_pos c_3).trans rfl)))
        exact r_iret X I (e_i (congrArg Prod.fst h9).symm (congrArg Prod.snd h9).symm rfl) dX11_give_47
      · skip
        refine lv_iload_n X.1 X.2.1 dX11_give_27 rfl (lv_at hl 1 rfl) ?_
        refine lv_sipush (v := 999) X.1 X.2.1 dX11_give_28 (by decide) ?_
        refine lv_aload_n X.1 X.2.1 dX11_give_31 rfl (lv_at hl 0 rfl) ?_
        refine g11_5 X I (k := 0) (by decide) rfl lf_X11_49 dX11_give_32 ?_
        refine g0_1 X I (k := 24) (by decide) rfl lf_X11_164 dX11_give_35 ?_
        refine lv_isub X.1 X.2.1 dX11_give_38 ?_
        refine lv_icmp_le (tgt := 48) X.1 X.2.1 dX11_give_39 (by decide) (fun c_4 => ?_) (fun c_4 => ?_)
        · skip
          refine lv_aload_n X.1 X.2.1 dX11_give_48 rfl (lv_at hl 0 rfl) ?_
          refine g11_6 X I (k := 0) (by decide) rfl lf_X11_56 dX11_give_49 ?_
          refine lv_aload_n X.1 X.2.1 dX11_give_52 rfl (lv_at hl 0 rfl) ?_
          refine g11_5 X I (k := 0) (by decide) rfl lf_X11_49 dX11_give_53 ?_
          refine r_ev I (r_runV X I pk_X5_keep (c5_keep l G (k1 := 24) ⟨by decide, rfl, rfl⟩ _ _) lm_X11_238 (by decide) (cl_5 rfl) rfl rfl rfl hl.1 rfl (Nat.le_of_ble_eq_true rfl) dX11_give_56 ⟨Nat.le_of_ble_eq_true rfl, Nat.le_of_ble_eq_true rfl⟩ ⟨Nat.le_refl 0, Nat.le_refl 0⟩) (fun H locs I => ?_)
          refine lv_aload_n X.1 X.2.1 dX11_give_59 rfl (lv_at hl 0 rfl) ?_
          refine g11_5 X I (k := 0) (by decide) rfl lf_X11_49 dX11_give_60 ?_
          refine lv_dup X.1 X.2.1 dX11_give_63 rfl ?_
          refine g0_1 X I (k := 24) (by decide) rfl lf_X11_164 dX11_give_64 ?_
          refine lv_iload_n X.1 X.2.1 dX11_give_67 rfl (lv_at hl 1 rfl) ?_
          refine lv_iadd X.1 X.2.1 dX11_give_68 ?_
          refine p0_1 X I (k := 24) (by decide) rfl lf_X11_164 dX11_give_69 (fun H locs I => ?_)
          refine lv_aload_n X.1 X.2.1 dX11_give_72 rfl (lv_at hl 0 rfl) ?_
          refine g11_5 X I (k := 0) (by decide) rfl lf_X11_49 dX11_give_73 ?_
          refine g0_1 X I (k := 24) (by decide) rfl lf_X11_164 dX11_give_76 ?_
          have h9 := hE.trans ((if_pos (b2i_y c_1)).trans ((if_neg c_2).trans ((if_neg c_3).trans ((if_pos c_4).trans rfl))))
          exact r_iret X I (e_i (congrArg Prod.fst h9).symm (congrArg Prod.snd h9).symm rfl) dX11_give_79
        · skip
          refine lv_aload_n X.1 X.2.1 dX11_give_42 rfl (lv_at hl 0 rfl) ?_
          refine lv_iconst (v := 1) X.1 X.2.1 dX11_give_43 (by decide) ?_
          refine r_ei I (r_runV X I pk_X11_refused (c11_refused l G _ _ _) lm_X11_229 (by decide) (cl_11 rfl) rfl rfl rfl hl.1 rfl (Nat.le_of_ble_eq_true rfl) dX11_give_44 ⟨Nat.le_of_ble_eq_true rfl, Nat.le_of_ble_eq_true rfl⟩ ⟨Nat.le_refl 0, Nat.le_refl 0⟩) (fun H locs I => ?_)
          have h9 := hE.trans ((if_pos (b2i_y c_1)).trans ((if_neg c_2).trans ((if_neg c_3).trans ((if_neg c_4).trans rfl))))
          exact r_iret X I (e_i (congrArg Prod.fst h9).symm (congrArg Prod.snd h9).symm rfl) dX11_give_47
  · skip
    refine lv_aload_n X.1 X.2.1 dX11_give_10 rfl (lv_at hl 0 rfl) ?_
    refine lv_iconst (v := 0) X.1 X.2.1 dX11_give_11 (by decide) ?_
    refine r_ei I (r_runV X I pk_X11_refused (c11_refused l G _ _ _) lm_X11_229 (by decide) (cl_11 rfl) rfl rfl rfl hl.1 rfl (Nat.le_of_ble_eq_true rfl) dX11_give_12 ⟨Nat.le_of_ble_eq_true rfl, Nat.le_of_ble_eq_true rfl⟩ ⟨Nat.le_refl 0, Nat.le_refl 0⟩) (fun H locs I => ?_)
    have h9 := hE.trans ((if_neg (b2i_n c_1)).trans rfl)
    exact r_iret X I (e_i (congrArg Prod.fst h9).symm (congrArg Prod.snd h9).symm rfl) dX11_give_15
def f11_grown (σ : SI) (x1 : Int32) (x2 : Int32) : Int32 := if (f8_isThankful 10 σ x1) = true then (f0_grievanceOf 24 σ x1) else (if ((f0_grievanceOf 24 σ x1) + (x2 * (f8_growth 10 σ))) < (30 : Int32) then ((f0_grievanceOf 24 σ x1) + (x2 * (f8_growth 10 σ))) else (30 : Int32))
set_option maxHeartbeats 4000000 in
set_option maxRecDepth 100000 in
theorem c11_grown (l : Launch) (G : GT) (σ : SI) (τ : SL) (x1 : Int32) (x2 : Int32) : Mc l yX11_grown cX11_grown 4 (some .int) 5 G [.ref (G.2.1 0), .int x1, .int x2] σ τ (Qi G (Ei (f11_grown σ x1 x2) σ τ)) := by
  refine m_start (by decide +kernel) (Nat.le_of_ble_eq_true rfl) rfl (fun p e s m args below meth c ls X I hl => ?_)
  have hl : lv_has ls 4 [(0, .ref (G.2.1 0)), (1, .int x1), (2, .int x2)] := hl
  obtain ⟨E, hE⟩ : ∃ E, E = (f11_grown σ x1 x2) := ⟨_, rfl⟩
  rw [← hE]
  refine lv_aload_n X.1 X.2.1 dX11_grown_0 rfl (lv_at hl 0 rfl) ?_
  refine g11_5 X I (k := 0) (by decide) rfl lf_X11_49 dX11_grown_1 ?_
  refine lv_iload_n X.1 X.2.1 dX11_grown_4 rfl (lv_at hl 1 rfl) ?_
  refine r_ei I (r_runV X I pk_X0_grievanceOf (c0_grievanceOf l G (k := 24) ⟨by decide, rfl, rfl⟩ _ _ _) lm_X11_185 (by decide) (cl_0 rfl) rfl rfl rfl hl.1 rfl (Nat.le_of_ble_eq_true rfl) dX11_grown_5 ⟨Nat.le_of_ble_eq_true rfl, Nat.le_of_ble_eq_true rfl⟩ ⟨Nat.le_refl 0, Nat.le_refl 0⟩) (fun H locs I => ?_)
  refine lv_istore_n (lv' := [(3, .int _), (0, .ref _), (1, .int _), (2, .int _)]) X.1 X.2.1 dX11_grown_8 rfl hl (by decide) rfl (fun ls hl => ?_)
  refine lv_aload_n X.1 X.2.1 dX11_grown_9 rfl (lv_at hl 1 rfl) ?_
  refine g11_3 X I (k := 0) (by decide) rfl lf_X11_35 dX11_grown_10 ?_
  refine lv_iload_n X.1 X.2.1 dX11_grown_13 rfl (lv_at hl 2 rfl) ?_
  refine r_ei I (r_runV X I pk_X8_isThankful (c8_isThankful l G (k := 10) ⟨by decide, rfl, rfl, rfl⟩ _ _ _) lm_X11_188 (by decide) (cl_8 rfl) rfl rfl rfl hl.1 rfl (Nat.le_of_ble_eq_true rfl) dX11_grown_14 ⟨Nat.le_of_ble_eq_true rfl, Nat.le_of_ble_eq_true rfl⟩ ⟨Nat.le_refl 0, Nat.le_refl 0⟩) (fun H locs I => ?_)
  refine lv_if_eq (tgt := 22) X.1 X.2.1 dX11_grown_17 (by decide) (fun c_1 => ?_) (fun c_1 => ?_)
  · skip
    refine lv_bipush (v := 30) X.1 X.2.1 dX11_grown_22 (by decide) ?_
    refine lv_iload_n X.1 X.2.1 dX11_grown_24 rfl (lv_at hl 0 rfl) ?_
    refine lv_iload_n X.1 X.2.1 dX11_grown_25 rfl (lv_at hl 3 rfl) ?_
    refine lv_aload_n X.1 X.2.1 dX11_grown_26 rfl (lv_at hl 1 rfl) ?_
    refine g11_3 X I (k := 0) (by decide) rfl lf_X11_35 dX11_grown_27 ?_
    refine r_ei I (r_runV X I pk_X8_growth (c8_growth l G (k := 10) ⟨by decide, rfl, rfl, rfl⟩ _ _) lm_X11_167 (by decide) (cl_8 rfl) rfl rfl rfl hl.1 rfl (Nat.le_of_ble_eq_true rfl) dX11_grown_30 ⟨Nat.le_of_ble_eq_true rfl, Nat.le_of_ble_eq_true rfl⟩ ⟨Nat.le_refl 0, Nat.le_refl 0⟩) (fun H locs I => ?_)
    refine lv_imul X.1 X.2.1 dX11_grown_33 ?_
    refine lv_iadd X.1 X.2.1 dX11_grown_34 ?_
    refine r_mmin X hl.1 lm_X11_286 ls_J9_min_7cf53 ln_J9 lc_J9_min_7cf53 (Nat.le_of_ble_eq_true rfl) (Nat.le_of_ble_eq_true rfl) (Nat.le_refl 0) (Nat.le_refl 0) dX11_grown_35 ?_
    have h9 := hE.trans ((if_neg (b2i_n c_1)).trans rfl)
    exact r_iret X I (e_i (h9).symm rfl rfl) dX11_grown_38
  · skip
    refine lv_iload_n X.1 X.2.1 dX11_grown_20 rfl (lv_at hl 0 rfl) ?_
    have h9 := hE.trans ((if_pos (b2i_y c_1)).trans rfl)
    exact r_iret X I (e_i (h9).symm rfl rfl) dX11_grown_21
def f11_goBy_c22 : Nat → Int32 → SI → SI
  | 0, _, σ => σ
  | fu + 1, v1, σ => if (f8_houses 10 σ) ≤ v1 then σ else (let s2 := (f0_setGrievance 24 σ v1 (f11_grown σ v1 (1 : Int32))); (f11_goBy_c22 fu (v1 + 1) s2))
def f11_goBy (σ : SI) : SI := let s0 := sp σ 24 6 ((σ 24 6) + (1 : Int32)); let s1 := (f0_goHome 24 s0); (f11_goBy_c22 ((Int32.toInt (f8_houses 10 s1) - Int32.toInt (0 : Int32)).toNat + 1) (0 : Int32) s1)
theorem w_f11_goBy_c22 (a : Nat) (h0 : a ≠ 24) (h1 : a ≠ 25) : ∀ (fu : Nat) (v1 : Int32) (σ : SI), (f11_goBy_c22 fu v1 σ) a = σ a := by
  intro fu
  induction fu with
  | zero => intros; rfl
  | succ fu ih =>
    intro v1 σ
    unfold f11_goBy_c22
    (repeat' split) <;> (first | rfl | (simp only [sp_n, su_n, ne_eq, not_false_eq_true, h0, h1, w_f0_goHome, w_f0_setGrievance, ih]; done) | (simp [sp_n, su_n, ne_eq, not_false_eq_true, h0, h1, w_f0_goHome, w_f0_setGrievance, ih]; done))
theorem w_f11_goBy (σ : SI) (a : Nat) (h0 : a ≠ 24) (h1 : a ≠ 25) : (f11_goBy σ) a = σ a := by
  unfold f11_goBy
  (repeat' split) <;> (first | rfl | (simp only [sp_n, su_n, ne_eq, not_false_eq_true, h0, h1, w_f0_goHome, w_f0_setGrievance, w_f11_goBy_c22]; done) | (simp [sp_n, su_n, ne_eq, not_false_eq_true, h0, h1, w_f0_goHome, w_f0_setGrievance, w_f11_goBy_c22]; done))
set_option maxHeartbeats 4000000 in
set_option maxRecDepth 100000 in
theorem c11_goBy_c22 {l : Launch} {p : Program} {e : Env} {s : State} {m : MethodId} {args : Array Value} {below : List Frame} {meth : Method} {c : Code} {G : GT} (X : CX p s m args meth c cX11_goBy RX11 2 none G) {E : SI} (τ : SL) : ∀ (fu : Nat) (v1 : Int32) (σ : SI) (H : Heap) (locs : List Loc) (ls : Array Slot), IX G s H locs σ τ → lv_has ls 2 [(0, .ref (G.2.1 0)), (1, .int v1)] → (Int32.toInt (f8_houses 10 σ) - Int32.toInt v1).toNat < fu → E = (f11_goBy_c22 fu v1 σ) → W p l e (rmN 6) s m args below meth c H locs 0 0 (MQ below ((Qv G (Ev E τ)) s.heap.size) args s 0 0 (AW G s.heap.size)) (F0 m 22 ls []) := by
  intro fu
  induction fu with
  | zero =>
    intro v1 σ H locs ls I hl  hm hE
    exact absurd hm (Nat.not_lt_zero _)
  | succ fu ih =>
    intro v1 σ H locs ls I hl  hm hE
    refine lv_iload_n X.1 X.2.1 dX11_goBy_22 rfl (lv_at hl 1 rfl) ?_
    refine lv_aload_n X.1 X.2.1 dX11_goBy_23 rfl (lv_at hl 0 rfl) ?_
    refine g11_3 X I (k := 0) (by decide) rfl lf_X11_35 dX11_goBy_24 ?_
    refine r_ei I (r_runV X I pk_X8_houses (c8_houses l G (k := 10) ⟨by decide, rfl, rfl, rfl⟩ _ _) lm_X11_155 (by decide) (cl_8 rfl) rfl rfl rfl hl.1 rfl (Nat.le_of_ble_eq_true rfl) dX11_goBy_27 ⟨Nat.le_of_ble_eq_true rfl, Nat.le_of_ble_eq_true rfl⟩ ⟨Nat.le_refl 0, Nat.le_refl 0⟩) (fun H locs I => ?_)
    refine lv_icmp_ge (tgt := 53) X.1 X.2.1 dX11_goBy_30 (by decide) (fun c_1 => ?_) (fun c_1 => ?_)
    · skip
      have h9 := hE.trans ((if_pos c_1).trans rfl)
      exact r_vret X I (e_v (h9).symm rfl) dX11_goBy_53
    · skip
      refine lv_aload_n X.1 X.2.1 dX11_goBy_33 rfl (lv_at hl 0 rfl) ?_
      refine g11_5 X I (k := 0) (by decide) rfl lf_X11_49 dX11_goBy_34 ?_
      refine lv_iload_n X.1 X.2.1 dX11_goBy_37 rfl (lv_at hl 1 rfl) ?_
      refine lv_aload_n X.1 X.2.1 dX11_goBy_38 rfl (lv_at hl 0 rfl) ?_
      refine lv_iload_n X.1 X.2.1 dX11_goBy_39 rfl (lv_at hl 1 rfl) ?_
      refine lv_iconst (v := 1) X.1 X.2.1 dX11_goBy_40 (by decide) ?_
      refine r_ei I (r_runV X I pk_X11_grown (c11_grown l G _ _ _ _) lm_X11_283 (by decide) (cl_11 rfl) rfl rfl rfl hl.1 rfl (Nat.le_of_ble_eq_true rfl) dX11_goBy_41 ⟨Nat.le_of_ble_eq_true rfl, Nat.le_of_ble_eq_true rfl⟩ ⟨Nat.le_refl 0, Nat.le_refl 0⟩) (fun H locs I => ?_)
      refine r_ev I (r_runV X I pk_X0_setGrievance (c0_setGrievance l G (k := 24) ⟨by decide, rfl, rfl⟩ _ _ _ _) lm_X11_258 (by decide) (cl_0 rfl) rfl rfl rfl hl.1 rfl (Nat.le_of_ble_eq_true rfl) dX11_goBy_44 ⟨Nat.le_of_ble_eq_true rfl, Nat.le_of_ble_eq_true rfl⟩ ⟨Nat.le_refl 0, Nat.le_refl 0⟩) (fun H locs I => ?_)
      refine lv_iinc (v := _ + 1) (lv' := [(1, .int _), (0, .ref _)]) X.1 X.2.1 dX11_goBy_47 hl (k := 1) rfl rfl (by decide) rfl (fun ls hl => ?_)
      refine lv_goto (tgt := 22) X.1 X.2.1 dX11_goBy_50 (by decide) ?_
      exact ih _ _ _ _ _ I (lv_sub hl [1, 0] rfl) (Nat.lt_of_lt_of_le (dec_c (by first | rfl | simp [f8_houses, f11_cell, w_f0_goHome, w_f0_setGrievance, sp_n]) (up_dec c_1)) (Nat.le_of_lt_succ hm)) (hE.trans ((if_neg c_1).trans rfl))
set_option maxHeartbeats 4000000 in
set_option maxRecDepth 100000 in
theorem c11_goBy (l : Launch) (G : GT) (σ : SI) (τ : SL) : Mc l yX11_goBy cX11_goBy 2 none 6 G [.ref (G.2.1 0)] σ τ (Qv G (Ev (f11_goBy σ) τ)) := by
  refine m_start (by decide +kernel) (Nat.le_of_ble_eq_true rfl) rfl (fun p e s m args below meth c ls X I hl => ?_)
  have hl : lv_has ls 2 [(0, .ref (G.2.1 0))] := hl
  obtain ⟨E, hE⟩ : ∃ E, E = (f11_goBy σ) := ⟨_, rfl⟩
  rw [← hE]
  refine lv_aload_n X.1 X.2.1 dX11_goBy_0 rfl (lv_at hl 0 rfl) ?_
  refine g11_5 X I (k := 0) (by decide) rfl lf_X11_49 dX11_goBy_1 ?_
  refine lv_dup X.1 X.2.1 dX11_goBy_4 rfl ?_
  refine g0_6 X I (k := 24) (by decide) rfl lf_X11_222 dX11_goBy_5 ?_
  refine lv_iconst (v := 1) X.1 X.2.1 dX11_goBy_8 (by decide) ?_
  refine lv_iadd X.1 X.2.1 dX11_goBy_9 ?_
  refine p0_6 X I (k := 24) (by decide) rfl lf_X11_222 dX11_goBy_10 (fun H locs I => ?_)
  refine lv_aload_n X.1 X.2.1 dX11_goBy_13 rfl (lv_at hl 0 rfl) ?_
  refine g11_5 X I (k := 0) (by decide) rfl lf_X11_49 dX11_goBy_14 ?_
  refine r_ev I (r_runV X I pk_X0_goHome (c0_goHome l G (k := 24) ⟨by decide, rfl, rfl⟩ _ _) lm_X11_280 (by decide) (cl_0 rfl) rfl rfl rfl hl.1 rfl (Nat.le_of_ble_eq_true rfl) dX11_goBy_17 ⟨Nat.le_of_ble_eq_true rfl, Nat.le_of_ble_eq_true rfl⟩ ⟨Nat.le_refl 0, Nat.le_refl 0⟩) (fun H locs I => ?_)
  refine lv_iconst (v := 0) X.1 X.2.1 dX11_goBy_20 (by decide) ?_
  refine lv_istore_n (lv' := [(1, .int _), (0, .ref _)]) X.1 X.2.1 dX11_goBy_21 rfl hl (by decide) rfl (fun ls hl => ?_)
  exact c11_goBy_c22 X _  _ _ _ _ _ _ I (lv_sub hl [1, 0] rfl) (Nat.lt_succ_self _) (hE.trans (rfl))
def f11_year (σ : SI) : Int32 × SI := if (f8_isTold 10 σ) = true then (if (σ 24 6) < (999 : Int32) then (let s0 := (f5_keep 24 σ); let s1 := (f11_goBy s0); ((s1 24 6), s1)) else (let r2 := (f11_refused σ (4 : Int32)); (r2.1, r2.2))) else (let r3 := (f11_refused σ (0 : Int32)); (r3.1, r3.2))
theorem w_f11_year (σ : SI) (a : Nat) (h0 : a ≠ 24) (h1 : a ≠ 25) (h2 : a ≠ 26) (h3 : a ≠ 39) (h4 : a ≠ (o_1k + 1)) (h5 : a ≠ o_1k) : (f11_year σ).2 a = σ a := by
  unfold f11_year
  (repeat' split) <;> (first | rfl | (simp only [sp_n, su_n, ne_eq, not_false_eq_true, h0, h1, h2, h3, h4, h5, w_f11_goBy, w_f11_refused, w_f5_keep]; done) | (simp [sp_n, su_n, ne_eq, not_false_eq_true, h0, h1, h2, h3, h4, h5, w_f11_goBy, w_f11_refused, w_f5_keep]; done))
set_option maxHeartbeats 4000000 in
set_option maxRecDepth 100000 in
theorem c11_year (l : Launch) (G : GT) (σ : SI) (τ : SL) : Mc l yX11_year cX11_year 1 (some .int) 7 G [.ref (G.2.1 0)] σ τ (Qi G (Ei (f11_year σ).1 (f11_year σ).2 τ)) := by
  refine m_start (by decide +kernel) (Nat.le_of_ble_eq_true rfl) rfl (fun p e s m args below meth c ls X I hl => ?_)
  have hl : lv_has ls 1 [(0, .ref (G.2.1 0))] := hl
  obtain ⟨E, hE⟩ : ∃ E, E = (f11_year σ) := ⟨_, rfl⟩
  rw [← hE]
  refine lv_aload_n X.1 X.2.1 dX11_year_0 rfl (lv_at hl 0 rfl) ?_
  refine g11_3 X I (k := 0) (by decide) rfl lf_X11_35 dX11_year_1 ?_
  refine r_ei I (r_runV X I pk_X8_isTold (c8_isTold l G (k := 10) ⟨by decide, rfl, rfl, rfl⟩ _ _) lm_X11_158 (by decide) (cl_8 rfl) rfl rfl rfl hl.1 rfl (Nat.le_of_ble_eq_true rfl) dX11_year_4 ⟨Nat.le_of_ble_eq_true rfl, Nat.le_of_ble_eq_true rfl⟩ ⟨Nat.le_refl 0, Nat.le_refl 0⟩) (fun H locs I => ?_)
  refine lv_if_ne (tgt := 16) X.1 X.2.1 dX11_year_7 (by decide) (fun c_1 => ?_) (fun c_1 => ?_)
  · skip
    refine lv_aload_n X.1 X.2.1 dX11_year_16 rfl (lv_at hl 0 rfl) ?_
    refine g11_5 X I (k := 0) (by decide) rfl lf_X11_49 dX11_year_17 ?_
    refine g0_6 X I (k := 24) (by decide) rfl lf_X11_222 dX11_year_20 ?_
    refine lv_sipush (v := 999) X.1 X.2.1 dX11_year_23 (by decide) ?_
    refine lv_icmp_lt (tgt := 35) X.1 X.2.1 dX11_year_26 (by decide) (fun c_2 => ?_) (fun c_2 => ?_)
    · skip
      refine lv_aload_n X.1 X.2.1 dX11_year_35 rfl (lv_at hl 0 rfl) ?_
      refine g11_6 X I (k := 0) (by decide) rfl lf_X11_56 dX11_year_36 ?_
      refine lv_aload_n X.1 X.2.1 dX11_year_39 rfl (lv_at hl 0 rfl) ?_
      refine g11_5 X I (k := 0) (by decide) rfl lf_X11_49 dX11_year_40 ?_
      refine r_ev I (r_runV X I pk_X5_keep (c5_keep l G (k1 := 24) ⟨by decide, rfl, rfl⟩ _ _) lm_X11_238 (by decide) (cl_5 rfl) rfl rfl rfl hl.1 rfl (Nat.le_of_ble_eq_true rfl) dX11_year_43 ⟨Nat.le_of_ble_eq_true rfl, Nat.le_of_ble_eq_true rfl⟩ ⟨Nat.le_refl 0, Nat.le_refl 0⟩) (fun H locs I => ?_)
      refine lv_aload_n X.1 X.2.1 dX11_year_46 rfl (lv_at hl 0 rfl) ?_
      refine r_ev I (r_runV X I pk_X11_goBy (c11_goBy l G _ _) lm_X11_277 (by decide) (cl_11 rfl) rfl rfl rfl hl.1 rfl (Nat.le_of_ble_eq_true rfl) dX11_year_47 ⟨Nat.le_of_ble_eq_true rfl, Nat.le_of_ble_eq_true rfl⟩ ⟨Nat.le_refl 0, Nat.le_refl 0⟩) (fun H locs I => ?_)
      refine lv_aload_n X.1 X.2.1 dX11_year_50 rfl (lv_at hl 0 rfl) ?_
      refine g11_5 X I (k := 0) (by decide) rfl lf_X11_49 dX11_year_51 ?_
      refine g0_6 X I (k := 24) (by decide) rfl lf_X11_222 dX11_year_54 ?_
      have h9 := hE.trans ((if_pos (b2i_y c_1)).trans ((if_pos c_2).trans rfl))
      exact r_iret X I (e_i (congrArg Prod.fst h9).symm (congrArg Prod.snd h9).symm rfl) dX11_year_57
    · skip
      refine lv_aload_n X.1 X.2.1 dX11_year_29 rfl (lv_at hl 0 rfl) ?_
      refine lv_iconst (v := 4) X.1 X.2.1 dX11_year_30 (by decide) ?_
      refine r_ei I (r_runV X I pk_X11_refused (c11_refused l G _ _ _) lm_X11_229 (by decide) (cl_11 rfl) rfl rfl rfl hl.1 rfl (Nat.le_of_ble_eq_true rfl) dX11_year_31 ⟨Nat.le_of_ble_eq_true rfl, Nat.le_of_ble_eq_true rfl⟩ ⟨Nat.le_refl 0, Nat.le_refl 0⟩) (fun H locs I => ?_)
      have h9 := hE.trans ((if_pos (b2i_y c_1)).trans ((if_neg c_2).trans rfl))
      exact r_iret X I (e_i (congrArg Prod.fst h9).symm (congrArg Prod.snd h9).symm rfl) dX11_year_34
  · skip
    refine lv_aload_n X.1 X.2.1 dX11_year_10 rfl (lv_at hl 0 rfl) ?_
    refine lv_iconst (v := 0) X.1 X.2.1 dX11_year_11 (by decide) ?_
    refine r_ei I (r_runV X I pk_X11_refused (c11_refused l G _ _ _) lm_X11_229 (by decide) (cl_11 rfl) rfl rfl rfl hl.1 rfl (Nat.le_of_ble_eq_true rfl) dX11_year_12 ⟨Nat.le_of_ble_eq_true rfl, Nat.le_of_ble_eq_true rfl⟩ ⟨Nat.le_refl 0, Nat.le_refl 0⟩) (fun H locs I => ?_)
    have h9 := hE.trans ((if_neg (b2i_n c_1)).trans rfl)
    exact r_iret X I (e_i (congrArg Prod.fst h9).symm (congrArg Prod.snd h9).symm rfl) dX11_year_15
def f11_faith (σ : SI) (x1 : Int32) : Bool × SI := if x1 < (0 : Int32) then (false, σ) else (if (9 : Int32) < x1 then (false, σ) else (if x1 = (σ 0 14) then (false, σ) else (let s0 := sp σ 0 14 x1; (true, s0))))
theorem w_f11_faith (σ : SI) (x1 : Int32) (a : Nat) (h0 : a ≠ 0) : (f11_faith σ x1).2 a = σ a := by
  unfold f11_faith
  (repeat' split) <;> (first | rfl | (simp only [sp_n, su_n, ne_eq, not_false_eq_true, h0]; done) | (simp [sp_n, su_n, ne_eq, not_false_eq_true, h0]; done))
set_option maxHeartbeats 4000000 in
set_option maxRecDepth 100000 in
theorem c11_faith (l : Launch) (G : GT) (σ : SI) (τ : SL) (x1 : Int32) : Mc l yX11_faith cX11_faith 2 (some .boolean) 0 G [.ref (G.2.1 0), .int x1] σ τ (Qi G (Ei (b2i (f11_faith σ x1).1) (f11_faith σ x1).2 τ)) := by
  refine m_start (by decide +kernel) (Nat.le_of_ble_eq_true rfl) rfl (fun p e s m args below meth c ls X I hl => ?_)
  have hl : lv_has ls 2 [(0, .ref (G.2.1 0)), (1, .int x1)] := hl
  obtain ⟨E, hE⟩ : ∃ E, E = (f11_faith σ x1) := ⟨_, rfl⟩
  rw [← hE]
  refine lv_iload_n X.1 X.2.1 dX11_faith_0 rfl (lv_at hl 1 rfl) ?_
  refine lv_if_lt (tgt := 18) X.1 X.2.1 dX11_faith_1 (by decide) (fun c_1 => ?_) (fun c_1 => ?_)
  · skip
    refine lv_iconst (v := 0) X.1 X.2.1 dX11_faith_18 (by decide) ?_
    have h9 := hE.trans ((if_pos c_1).trans rfl)
    exact r_zret X I rfl (e_i (congrArg b2i (congrArg Prod.fst h9)).symm (congrArg Prod.snd h9).symm rfl) dX11_faith_19
  · skip
    refine lv_iload_n X.1 X.2.1 dX11_faith_4 rfl (lv_at hl 1 rfl) ?_
    refine lv_bipush (v := 9) X.1 X.2.1 dX11_faith_5 (by decide) ?_
    refine lv_icmp_gt (tgt := 18) X.1 X.2.1 dX11_faith_7 (by decide) (fun c_2 => ?_) (fun c_2 => ?_)
    · skip
      refine lv_iconst (v := 0) X.1 X.2.1 dX11_faith_18 (by decide) ?_
      have h9 := hE.trans ((if_neg c_1).trans ((if_pos c_2).trans rfl))
      exact r_zret X I rfl (e_i (congrArg b2i (congrArg Prod.fst h9)).symm (congrArg Prod.snd h9).symm rfl) dX11_faith_19
    · skip
      refine lv_iload_n X.1 X.2.1 dX11_faith_10 rfl (lv_at hl 1 rfl) ?_
      refine lv_aload_n X.1 X.2.1 dX11_faith_11 rfl (lv_at hl 0 rfl) ?_
      refine g11_14 X I (k := 0) (by decide) rfl lf_X11_96 dX11_faith_12 ?_
      refine lv_icmp_ne (tgt := 20) X.1 X.2.1 dX11_faith_15 (by decide) (fun c_3 => ?_) (fun c_3 => ?_)
      · skip
        refine lv_aload_n X.1 X.2.1 dX11_faith_20 rfl (lv_at hl 0 rfl) ?_
        refine lv_iload_n X.1 X.2.1 dX11_faith_21 rfl (lv_at hl 1 rfl) ?_
        refine p11_14 X I (k := 0) (by decide) rfl lf_X11_96 dX11_faith_22 (fun H locs I => ?_)
        refine lv_iconst (v := 1) X.1 X.2.1 dX11_faith_25 (by decide) ?_
        have h9 := hE.trans ((if_neg c_1).trans ((if_neg c_2).trans ((if_neg c_3).trans rfl)))
        exact r_zret X I rfl (e_i (congrArg b2i (congrArg Prod.fst h9)).symm (congrArg Prod.snd h9).symm rfl) dX11_faith_26
      · skip
        refine lv_iconst (v := 0) X.1 X.2.1 dX11_faith_18 (by decide) ?_
        have h9 := hE.trans ((if_neg c_1).trans ((if_neg c_2).trans ((if_pos c_3).trans rfl)))
        exact r_zret X I rfl (e_i (congrArg b2i (congrArg Prod.fst h9)).symm (congrArg Prod.snd h9).symm rfl) dX11_faith_19
def f11_draw (τ : SL) (x1 : Int32) : Int32 × SL := let t0 := sl τ 0 (((τ 0) * (6364136223846793005 : Int64)) + (1442695040888963407 : Int64)); if (0 : Int32) < x1 then ((Int64.toInt32 (((Int64.toUInt64 (t0 0) >>> ((Int32.toInt64 (33 : Int32)).toUInt64 &&& Int64.toUInt64 63)).toInt64) - ((Int64.toUInt64 (t0 0) >>> ((Int32.toInt64 (33 : Int32)).toUInt64 &&& Int64.toUInt64 63)).toInt64) / (Int32.toInt64 x1) * (Int32.toInt64 x1))), t0) else ((0 : Int32), t0)
set_option maxHeartbeats 4000000 in
set_option maxRecDepth 100000 in
theorem c11_draw (l : Launch) (G : GT) (σ : SI) (τ : SL) (x1 : Int32) : Mc l yX11_draw cX11_draw 2 (some .int) 0 G [.ref (G.2.1 0), .int x1] σ τ (Qi G (Ei (f11_draw τ x1).1 σ (f11_draw τ x1).2)) := by
  refine m_start (by decide +kernel) (Nat.le_of_ble_eq_true rfl) rfl (fun p e s m args below meth c ls X I hl => ?_)
  have hl : lv_has ls 2 [(0, .ref (G.2.1 0)), (1, .int x1)] := hl
  obtain ⟨E, hE⟩ : ∃ E, E = (f11_draw τ x1) := ⟨_, rfl⟩
  rw [← hE]
  refine lv_aload_n X.1 X.2.1 dX11_draw_0 rfl (lv_at hl 0 rfl) ?_
  refine lv_aload_n X.1 X.2.1 dX11_draw_1 rfl (lv_at hl 0 rfl) ?_
  refine g11_15 X I (k := 0) (by decide) rfl lf_X11_289 dX11_draw_2 ?_
  refine lv_ldc2 X.1 X.2.1 (v := 6364136223846793005) X.2.2.2.2.1 (X.2.2.2.1 _ lq_X11_299) dX11_draw_5 ?_
  refine lv_lmul X.1 X.2.1 dX11_draw_8 ?_
  refine lv_ldc2 X.1 X.2.1 (v := 1442695040888963407) X.2.2.2.2.1 (X.2.2.2.1 _ lq_X11_301) dX11_draw_9 ?_
  refine lv_ladd X.1 X.2.1 dX11_draw_12 ?_
  refine p11_15 X I (k := 0) (by decide) rfl lf_X11_289 dX11_draw_13 (fun H locs I => ?_)
  refine lv_iload_n X.1 X.2.1 dX11_draw_16 rfl (lv_at hl 1 rfl) ?_
  refine lv_if_gt (tgt := 24) X.1 X.2.1 dX11_draw_17 (by decide) (fun c_1 => ?_) (fun c_1 => ?_)
  · skip
    refine lv_aload_n X.1 X.2.1 dX11_draw_24 rfl (lv_at hl 0 rfl) ?_
    refine g11_15 X I (k := 0) (by decide) rfl lf_X11_289 dX11_draw_25 ?_
    refine lv_bipush (v := 33) X.1 X.2.1 dX11_draw_28 (by decide) ?_
    refine lv_lushr X.1 X.2.1 dX11_draw_30 rfl ?_
    refine lv_iload_n X.1 X.2.1 dX11_draw_31 rfl (lv_at hl 1 rfl) ?_
    refine lv_i2l X.1 X.2.1 dX11_draw_32 rfl ?_
    refine lv_lrem X.1 X.2.1 dX11_draw_33 (i2l_ne c_1) ?_
    refine lv_l2i X.1 X.2.1 dX11_draw_34 rfl ?_
    have h9 := hE.trans ((if_pos c_1).trans rfl)
    exact r_iret X I (e_i (congrArg Prod.fst h9).symm rfl (congrArg Prod.snd h9).symm) dX11_draw_35
  · skip
    refine lv_iconst (v := 0) X.1 X.2.1 dX11_draw_20 (by decide) ?_
    refine lv_goto (tgt := 35) X.1 X.2.1 dX11_draw_21 (by decide) ?_
    have h9 := hE.trans ((if_neg c_1).trans rfl)
    exact r_iret X I (e_i (congrArg Prod.fst h9).symm rfl (congrArg Prod.snd h9).symm) dX11_draw_35
def f11_triedDoor (σ : SI) (x1 : Int32) : Int32 × SI := let s0 := (f4_setOut σ); let r1 := (f4_comesTo s0 x1); if r1.1 = true then (let r2 := (f11_arrived r1.2 x1); ((1 : Int32), r2.2)) else ((0 : Int32), r1.2)
theorem w_f11_triedDoor (σ : SI) (x1 : Int32) (a : Nat) (h0 : a ≠ 13) (h1 : a ≠ 15) (h2 : a ≠ 24) (h3 : a ≠ 25) (h4 : a ≠ 28) (h5 : a ≠ 32) : (f11_triedDoor σ x1).2 a = σ a := by
  unfold f11_triedDoor
  (repeat' split) <;> (first | rfl | (simp only [sp_n, su_n, ne_eq, not_false_eq_true, h0, h1, h2, h3, h4, h5, w_f11_arrived, w_f4_comesTo, w_f4_setOut]; done) | (simp [sp_n, su_n, ne_eq, not_false_eq_true, h0, h1, h2, h3, h4, h5, w_f11_arrived, w_f4_comesTo, w_f4_setOut]; done))
set_option maxHeartbeats 4000000 in
set_option maxRecDepth 100000 in
theorem c11_triedDoor (l : Launch) (G : GT) (σ : SI) (τ : SL) (x1 : Int32) : Mc l yX11_triedDoor cX11_triedDoor 2 (some .int) 7 G [.ref (G.2.1 0), .int x1] σ τ (Qi G (Ei (f11_triedDoor σ x1).1 (f11_triedDoor σ x1).2 τ)) := by
  refine m_start (by decide +kernel) (Nat.le_of_ble_eq_true rfl) rfl (fun p e s m args below meth c ls X I hl => ?_)
  have hl : lv_has ls 2 [(0, .ref (G.2.1 0)), (1, .int x1)] := hl
  obtain ⟨E, hE⟩ : ∃ E, E = (f11_triedDoor σ x1) := ⟨_, rfl⟩
  rw [← hE]
  refine lv_aload_n X.1 X.2.1 dX11_triedDoor_0 rfl (lv_at hl 0 rfl) ?_
  refine g11_7 X I (k := 0) (by decide) rfl lf_X11_65 dX11_triedDoor_1 ?_
  refine r_ev I (r_runV X I pk_X4_setOut (c4_setOut l G _ _) lm_X11_232 (by decide) (cl_4 rfl) rfl rfl rfl hl.1 rfl (Nat.le_of_ble_eq_true rfl) dX11_triedDoor_4 ⟨Nat.le_of_ble_eq_true rfl, Nat.le_of_ble_eq_true rfl⟩ ⟨Nat.le_refl 0, Nat.le_refl 0⟩) (fun H locs I => ?_)
  refine lv_aload_n X.1 X.2.1 dX11_triedDoor_7 rfl (lv_at hl 0 rfl) ?_
  refine g11_7 X I (k := 0) (by decide) rfl lf_X11_65 dX11_triedDoor_8 ?_
  refine lv_iload_n X.1 X.2.1 dX11_triedDoor_11 rfl (lv_at hl 1 rfl) ?_
  refine r_ei I (r_runV X I pk_X4_comesTo (c4_comesTo l G _ _ _) lm_X11_235 (by decide) (cl_4 rfl) rfl rfl rfl hl.1 rfl (Nat.le_of_ble_eq_true rfl) dX11_triedDoor_12 ⟨Nat.le_of_ble_eq_true rfl, Nat.le_of_ble_eq_true rfl⟩ ⟨Nat.le_refl 0, Nat.le_refl 0⟩) (fun H locs I => ?_)
  refine lv_if_ne (tgt := 20) X.1 X.2.1 dX11_triedDoor_15 (by decide) (fun c_1 => ?_) (fun c_1 => ?_)
  · skip
    refine lv_aload_n X.1 X.2.1 dX11_triedDoor_20 rfl (lv_at hl 0 rfl) ?_
    refine lv_iload_n X.1 X.2.1 dX11_triedDoor_21 rfl (lv_at hl 1 rfl) ?_
    refine r_ei I (r_runV X I pk_X11_arrived (c11_arrived l G _ _ _) lm_X11_242 (by decide) (cl_11 rfl) rfl rfl rfl hl.1 rfl (Nat.le_of_ble_eq_true rfl) dX11_triedDoor_22 ⟨Nat.le_of_ble_eq_true rfl, Nat.le_of_ble_eq_true rfl⟩ ⟨Nat.le_refl 0, Nat.le_refl 0⟩) (fun H locs I => ?_)
    refine lv_pop X.1 X.2.1 dX11_triedDoor_25 rfl ?_
    refine lv_iconst (v := 1) X.1 X.2.1 dX11_triedDoor_26 (by decide) ?_
    have h9 := hE.trans ((if_pos (b2i_y c_1)).trans rfl)
    exact r_iret X I (e_i (congrArg Prod.fst h9).symm (congrArg Prod.snd h9).symm rfl) dX11_triedDoor_27
  · skip
    refine lv_iconst (v := 0) X.1 X.2.1 dX11_triedDoor_18 (by decide) ?_
    have h9 := hE.trans ((if_neg (b2i_n c_1)).trans rfl)
    exact r_iret X I (e_i (congrArg Prod.fst h9).symm (congrArg Prod.snd h9).symm rfl) dX11_triedDoor_19
def f11_decades_c34 (x1 : Int32) (x2 : Int64) : Nat → Int32 → Int32 → SI → SL → (Int32 × SI × SL)
  | 0, _, _, σ, τ => (0, σ, τ)
  | fu + 1, v4, v5, σ, τ => if x1 ≤ v5 then (v4, σ, τ) else (let s1 := (f5_keep 24 σ); let r2 := (f11_draw τ (10 : Int32)); if (s1 0 14) ≤ r2.1 then (if (999 : Int32) ≤ (s1 24 6) then (f11_decades_c34 x1 x2 fu v4 (v5 + 1) s1 r2.2) else (let s3 := (f11_goBy s1); (f11_decades_c34 x1 x2 fu v4 (v5 + 1) s3 r2.2))) else (let r4 := (f11_draw r2.2 (f8_houses 10 s1)); let r5 := (f11_triedDoor s1 r4.1); (f11_decades_c34 x1 x2 fu (v4 + r5.1) (v5 + 1) r5.2 r4.2)))
def f11_decades (σ : SI) (τ : SL) (x1 : Int32) (x2 : Int64) : Int32 × SI × SL := if (f8_isTold 10 σ) = true then (if x1 < (1 : Int32) then ((-1 : Int32), σ, τ) else (if x1 ≤ (60 : Int32) then (let t0 := sl τ 0 x2; (f11_decades_c34 x1 x2 ((Int32.toInt x1 - Int32.toInt (0 : Int32)).toNat + 1) (0 : Int32) (0 : Int32) σ t0)) else ((-1 : Int32), σ, τ))) else ((-1 : Int32), σ, τ)
theorem w_f11_decades_c34 (x1 : Int32) (x2 : Int64) (a : Nat) (h0 : a ≠ 13) (h1 : a ≠ 15) (h2 : a ≠ 24) (h3 : a ≠ 25) (h4 : a ≠ 26) (h5 : a ≠ 28) (h6 : a ≠ 32) (h7 : a ≠ (o_1k + 1)) (h8 : a ≠ o_1k) : ∀ (fu : Nat) (v4 : Int32) (v5 : Int32) (σ : SI) (τ : SL), (f11_decades_c34 x1 x2 fu v4 v5 σ τ).2.1 a = σ a := by
  intro fu
  induction fu with
  | zero => intros; rfl
  | succ fu ih =>
    intro v4 v5 σ τ
    unfold f11_decades_c34
    (repeat' split) <;> (first | rfl | (simp only [sp_n, su_n, ne_eq, not_false_eq_true, h0, h1, h2, h3, h4, h5, h6, h7, h8, w_f11_goBy, w_f11_triedDoor, w_f5_keep, ih]; done) | (simp [sp_n, su_n, ne_eq, not_false_eq_true, h0, h1, h2, h3, h4, h5, h6, h7, h8, w_f11_goBy, w_f11_triedDoor, w_f5_keep, ih]; done))
theorem w_f11_decades (σ : SI) (τ : SL) (x1 : Int32) (x2 : Int64) (a : Nat) (h0 : a ≠ 13) (h1 : a ≠ 15) (h2 : a ≠ 24) (h3 : a ≠ 25) (h4 : a ≠ 26) (h5 : a ≠ 28) (h6 : a ≠ 32) (h7 : a ≠ (o_1k + 1)) (h8 : a ≠ o_1k) : (f11_decades σ τ x1 x2).2.1 a = σ a := by
  unfold f11_decades
  (repeat' split) <;> (first | rfl | (simp only [sp_n, su_n, ne_eq, not_false_eq_true, h0, h1, h2, h3, h4, h5, h6, h7, h8, w_f11_goBy, w_f11_triedDoor, w_f5_keep, w_f11_decades_c34]; done) | (simp [sp_n, su_n, ne_eq, not_false_eq_true, h0, h1, h2, h3, h4, h5, h6, h7, h8, w_f11_goBy, w_f11_triedDoor, w_f5_keep, w_f11_decades_c34]; done))
set_option maxHeartbeats 4000000 in
set_option maxRecDepth 100000 in
theorem c11_decades_c34 {l : Launch} {p : Program} {e : Env} {s : State} {m : MethodId} {args : Array Value} {below : List Frame} {meth : Method} {c : Code} {G : GT} (X : CX p s m args meth c cX11_decades RX11 6 (some .int) G) {E : Int32 × SI × SL} (x1 : Int32) (x2 : Int64) : ∀ (fu : Nat) (v4 : Int32) (v5 : Int32) (σ : SI) (τ : SL) (H : Heap) (locs : List Loc) (ls : Array Slot), IX G s H locs σ τ → lv_has ls 6 [(0, .ref (G.2.1 0)), (1, .int x1), (2, .long x2), (4, .int v4), (5, .int v5)] → (Int32.toInt x1 - Int32.toInt v5).toNat < fu → E = (f11_decades_c34 x1 x2 fu v4 v5 σ τ) → W p l e (rmN 8) s m args below meth c H locs 0 0 (MQ below ((Qi G (Ei E.1 E.2.1 E.2.2)) s.heap.size) args s 0 0 (AW G s.heap.size)) (F0 m 34 ls []) := by
  intro fu
  induction fu with
  | zero =>
    intro v4 v5 σ τ H locs ls I hl  hm hE
    exact absurd hm (Nat.not_lt_zero _)
  | succ fu ih =>
    intro v4 v5 σ τ H locs ls I hl  hm hE
    refine lv_iload X.1 X.2.1 dX11_decades_34 (lv_at hl 4 rfl) ?_
    refine lv_iload_n X.1 X.2.1 dX11_decades_36 rfl (lv_at hl 1 rfl) ?_
    refine lv_icmp_ge (tgt := 110) X.1 X.2.1 dX11_decades_37 (by decide) (fun c_4 => ?_) (fun c_4 => ?_)
    · skip
      refine lv_iload X.1 X.2.1 dX11_decades_110 (lv_at hl 3 rfl) ?_
      have h9 := hE.trans ((if_pos c_4).trans rfl)
      exact r_iret X I (e_i (congrArg Prod.fst h9).symm (congrArg (fun z => z.2.1) h9).symm (congrArg (fun z => z.2.2) h9).symm) dX11_decades_112
    · skip
      refine lv_aload_n X.1 X.2.1 dX11_decades_40 rfl (lv_at hl 0 rfl) ?_
      refine g11_6 X I (k := 0) (by decide) rfl lf_X11_56 dX11_decades_41 ?_
      refine lv_aload_n X.1 X.2.1 dX11_decades_44 rfl (lv_at hl 0 rfl) ?_
      refine g11_5 X I (k := 0) (by decide) rfl lf_X11_49 dX11_decades_45 ?_
      refine r_ev I (r_runV X I pk_X5_keep (c5_keep l G (k1 := 24) ⟨by decide, rfl, rfl⟩ _ _) lm_X11_238 (by decide) (cl_5 rfl) rfl rfl rfl hl.1 rfl (Nat.le_of_ble_eq_true rfl) dX11_decades_48 ⟨Nat.le_of_ble_eq_true rfl, Nat.le_of_ble_eq_true rfl⟩ ⟨Nat.le_refl 0, Nat.le_refl 0⟩) (fun H locs I => ?_)
      refine lv_aload_n X.1 X.2.1 dX11_decades_51 rfl (lv_at hl 0 rfl) ?_
      refine lv_bipush (v := 10) X.1 X.2.1 dX11_decades_52 (by decide) ?_
      refine r_ei I (r_runV X I pk_X11_draw (c11_draw l G _ _ _) lm_X11_293 (by decide) (cl_11 rfl) rfl rfl rfl hl.1 rfl (Nat.le_of_ble_eq_true rfl) dX11_decades_54 ⟨Nat.le_of_ble_eq_true rfl, Nat.le_of_ble_eq_true rfl⟩ ⟨Nat.le_refl 0, Nat.le_refl 0⟩) (fun H locs I => ?_)
      refine lv_aload_n X.1 X.2.1 dX11_decades_57 rfl (lv_at hl 0 rfl) ?_
      refine g11_14 X I (k := 0) (by decide) rfl lf_X11_96 dX11_decades_58 ?_
      refine lv_icmp_ge (tgt := 87) X.1 X.2.1 dX11_decades_61 (by decide) (fun c_5 => ?_) (fun c_5 => ?_)
      · skip
        refine lv_aload_n X.1 X.2.1 dX11_decades_87 rfl (lv_at hl 0 rfl) ?_
        refine g11_5 X I (k := 0) (by decide) rfl lf_X11_49 dX11_decades_88 ?_
        refine g0_6 X I (k := 24) (by decide) rfl lf_X11_222 dX11_decades_91 ?_
        refine lv_sipush (v := 999) X.1 X.2.1 dX11_decades_94 (by decide) ?_
        refine lv_icmp_ge (tgt := 104) X.1 X.2.1 dX11_decades_97 (by decide) (fun c_6 => ?_) (fun c_6 => ?_)
        · skip
          refine lv_iinc (v := _ + 1) (lv' := [(5, .int _), (0, .ref _), (1, .int _), (2, .long _), (4, .int _)]) X.1 X.2.1 dX11_decades_104 hl (k := 4) rfl rfl (by decide) rfl (fun ls hl => ?_)
          refine lv_goto (tgt := 34) X.1 X.2.1 dX11_decades_107 (by decide) ?_
          exact ih _ _ _ _ _ _ _ I (lv_sub hl [1, 2, 3, 4, 0] rfl) (Nat.lt_of_lt_of_le (up_dec c_4) (Nat.le_of_lt_succ hm)) (hE.trans ((if_neg c_4).trans ((if_pos c_5).trans ((if_pos c_6).trans rfl))))
        · skip
          refine lv_aload_n X.1 X.2.1 dX11_decades_100 rfl (lv_at hl 0 rfl) ?_
          refine r_ev I (r_runV X I pk_X11_goBy (c11_goBy l G _ _) lm_X11_277 (by decide) (cl_11 rfl) rfl rfl rfl hl.1 rfl (Nat.le_of_ble_eq_true rfl) dX11_decades_101 ⟨Nat.le_of_ble_eq_true rfl, Nat.le_of_ble_eq_true rfl⟩ ⟨Nat.le_refl 0, Nat.le_refl 0⟩) (fun H locs I => ?_)
          refine lv_iinc (v := _ + 1) (lv' := [(5, .int _), (0, .ref _), (1, .int _), (2, .long _), (4, .int _)]) X.1 X.2.1 dX11_decades_104 hl (k := 4) rfl rfl (by decide) rfl (fun ls hl => ?_)
          refine lv_goto (tgt := 34) X.1 X.2.1 dX11_decades_107 (by decide) ?_
          exact ih _ _ _ _ _ _ _ I (lv_sub hl [1, 2, 3, 4, 0] rfl) (Nat.lt_of_lt_of_le (up_dec c_4) (Nat.le_of_lt_succ hm)) (hE.trans ((if_neg c_4).trans ((if_pos c_5).trans ((if_neg c_6).trans rfl))))
      · skip
        refine lv_iload X.1 X.2.1 dX11_decades_64 (lv_at hl 3 rfl) ?_
        refine lv_aload_n X.1 X.2.1 dX11_decades_66 rfl (lv_at hl 0 rfl) ?_
        refine lv_aload_n X.1 X.2.1 dX11_decades_67 rfl (lv_at hl 0 rfl) ?_
        refine lv_aload_n X.1 X.2.1 dX11_decades_68 rfl (lv_at hl 0 rfl) ?_
        refine g11_3 X I (k := 0) (by decide) rfl lf_X11_35 dX11_decades_69 ?_
        refine r_ei I (r_runV X I pk_X8_houses (c8_houses l G (k := 10) ⟨by decide, rfl, rfl, rfl⟩ _ _) lm_X11_155 (by decide) (cl_8 rfl) rfl rfl rfl hl.1 rfl (Nat.le_of_ble_eq_true rfl) dX11_decades_72 ⟨Nat.le_of_ble_eq_true rfl, Nat.le_of_ble_eq_true rfl⟩ ⟨Nat.le_refl 0, Nat.le_refl 0⟩) (fun H locs I => ?_)
        refine r_ei I (r_runV X I pk_X11_draw (c11_draw l G _ _ _) lm_X11_293 (by decide) (cl_11 rfl) rfl rfl rfl hl.1 rfl (Nat.le_of_ble_eq_true rfl) dX11_decades_75 ⟨Nat.le_of_ble_eq_true rfl, Nat.le_of_ble_eq_true rfl⟩ ⟨Nat.le_refl 0, Nat.le_refl 0⟩) (fun H locs I => ?_)
        refine r_ei I (r_runV X I pk_X11_triedDoor (c11_triedDoor l G _ _ _) lm_X11_296 (by decide) (cl_11 rfl) rfl rfl rfl hl.1 rfl (Nat.le_of_ble_eq_true rfl) dX11_decades_78 ⟨Nat.le_of_ble_eq_true rfl, Nat.le_of_ble_eq_true rfl⟩ ⟨Nat.le_refl 0, Nat.le_refl 0⟩) (fun H locs I => ?_)
        refine lv_iadd X.1 X.2.1 dX11_decades_81 ?_
        refine lv_istore (lv' := [(4, .int _), (0, .ref _), (1, .int _), (2, .long _), (5, .int _)]) X.1 X.2.1 dX11_decades_82 hl (by decide) rfl (fun ls hl => ?_)
        refine lv_goto (tgt := 104) X.1 X.2.1 dX11_decades_84 (by decide) ?_
        refine lv_iinc (v := _ + 1) (lv' := [(5, .int _), (4, .int _), (0, .ref _), (1, .int _), (2, .long _)]) X.1 X.2.1 dX11_decades_104 hl (k := 4) rfl rfl (by decide) rfl (fun ls hl => ?_)
        refine lv_goto (tgt := 34) X.1 X.2.1 dX11_decades_107 (by decide) ?_
        exact ih _ _ _ _ _ _ _ I (lv_sub hl [2, 3, 4, 1, 0] rfl) (Nat.lt_of_lt_of_le (up_dec c_4) (Nat.le_of_lt_succ hm)) (hE.trans ((if_neg c_4).trans ((if_neg c_5).trans rfl)))
set_option maxHeartbeats 4000000 in
set_option maxRecDepth 100000 in
theorem c11_decades (l : Launch) (G : GT) (σ : SI) (τ : SL) (x1 : Int32) (x2 : Int64) : Mc l yX11_decades cX11_decades 6 (some .int) 8 G [.ref (G.2.1 0), .int x1, .long x2] σ τ (Qi G (Ei (f11_decades σ τ x1 x2).1 (f11_decades σ τ x1 x2).2.1 (f11_decades σ τ x1 x2).2.2)) := by
  refine m_start (by decide +kernel) (Nat.le_of_ble_eq_true rfl) rfl (fun p e s m args below meth c ls X I hl => ?_)
  have hl : lv_has ls 6 [(0, .ref (G.2.1 0)), (1, .int x1), (2, .long x2)] := hl
  obtain ⟨E, hE⟩ : ∃ E, E = (f11_decades σ τ x1 x2) := ⟨_, rfl⟩
  rw [← hE]
  refine lv_aload_n X.1 X.2.1 dX11_decades_0 rfl (lv_at hl 0 rfl) ?_
  refine g11_3 X I (k := 0) (by decide) rfl lf_X11_35 dX11_decades_1 ?_
  refine r_ei I (r_runV X I pk_X8_isTold (c8_isTold l G (k := 10) ⟨by decide, rfl, rfl, rfl⟩ _ _) lm_X11_158 (by decide) (cl_8 rfl) rfl rfl rfl hl.1 rfl (Nat.le_of_ble_eq_true rfl) dX11_decades_4 ⟨Nat.le_of_ble_eq_true rfl, Nat.le_of_ble_eq_true rfl⟩ ⟨Nat.le_refl 0, Nat.le_refl 0⟩) (fun H locs I => ?_)
  refine lv_if_eq (tgt := 21) X.1 X.2.1 dX11_decades_7 (by decide) (fun c_1 => ?_) (fun c_1 => ?_)
  · skip
    refine lv_iconst (v := (-1)) X.1 X.2.1 dX11_decades_21 (by decide) ?_
    have h9 := hE.trans ((if_neg (b2i_n c_1)).trans rfl)
    exact r_iret X I (e_i (congrArg Prod.fst h9).symm (congrArg (fun z => z.2.1) h9).symm (congrArg (fun z => z.2.2) h9).symm) dX11_decades_22
  · skip
    refine lv_iload_n X.1 X.2.1 dX11_decades_10 rfl (lv_at hl 1 rfl) ?_
    refine lv_iconst (v := 1) X.1 X.2.1 dX11_decades_11 (by decide) ?_
    refine lv_icmp_lt (tgt := 21) X.1 X.2.1 dX11_decades_12 (by decide) (fun c_2 => ?_) (fun c_2 => ?_)
    · skip
      refine lv_iconst (v := (-1)) X.1 X.2.1 dX11_decades_21 (by decide) ?_
      have h9 := hE.trans ((if_pos (b2i_y c_1)).trans ((if_pos c_2).trans rfl))
      exact r_iret X I (e_i (congrArg Prod.fst h9).symm (congrArg (fun z => z.2.1) h9).symm (congrArg (fun z => z.2.2) h9).symm) dX11_decades_22
    · skip
      refine lv_iload_n X.1 X.2.1 dX11_decades_15 rfl (lv_at hl 1 rfl) ?_
      refine lv_bipush (v := 60) X.1 X.2.1 dX11_decades_16 (by decide) ?_
      refine lv_icmp_le (tgt := 23) X.1 X.2.1 dX11_decades_18 (by decide) (fun c_3 => ?_) (fun c_3 => ?_)
      · skip
        refine lv_aload_n X.1 X.2.1 dX11_decades_23 rfl (lv_at hl 0 rfl) ?_
        refine lv_lload_n X.1 X.2.1 dX11_decades_24 rfl (lv_at hl 2 rfl) ?_
        refine p11_15 X I (k := 0) (by decide) rfl lf_X11_289 dX11_decades_25 (fun H locs I => ?_)
        refine lv_iconst (v := 0) X.1 X.2.1 dX11_decades_28 (by decide) ?_
        refine lv_istore (lv' := [(4, .int _), (0, .ref _), (1, .int _), (2, .long _)]) X.1 X.2.1 dX11_decades_29 hl (by decide) rfl (fun ls hl => ?_)
        refine lv_iconst (v := 0) X.1 X.2.1 dX11_decades_31 (by decide) ?_
        refine lv_istore (lv' := [(5, .int _), (4, .int _), (0, .ref _), (1, .int _), (2, .long _)]) X.1 X.2.1 dX11_decades_32 hl (by decide) rfl (fun ls hl => ?_)
        exact c11_decades_c34 X _ _ _ _ _ _ _ _ _ _ I (lv_sub hl [2, 3, 4, 1, 0] rfl) (Nat.lt_succ_self _) (hE.trans ((if_pos (b2i_y c_1)).trans ((if_neg c_2).trans ((if_pos c_3).trans rfl))))
      · skip
        refine lv_iconst (v := (-1)) X.1 X.2.1 dX11_decades_21 (by decide) ?_
        have h9 := hE.trans ((if_pos (b2i_y c_1)).trans ((if_neg c_2).trans ((if_neg c_3).trans rfl)))
        exact r_iret X I (e_i (congrArg Prod.fst h9).symm (congrArg (fun z => z.2.1) h9).symm (congrArg (fun z => z.2.2) h9).symm) dX11_decades_22
def f11_status (σ : SI) (x1 : Int32) : Int32 := if x1 < (0 : Int32) then (-1 : Int32) else (if (5 : Int32) ≤ x1 then (-1 : Int32) else (σ 39 (Int32.toNatClampNeg x1)))
set_option maxHeartbeats 4000000 in
set_option maxRecDepth 100000 in
theorem c11_status (l : Launch) (G : GT) (σ : SI) (τ : SL) (x1 : Int32) : Mc l yX11_status cX11_status 2 (some .int) 0 G [.ref (G.2.1 0), .int x1] σ τ (Qi G (Ei (f11_status σ x1) σ τ)) := by
  refine m_start (by decide +kernel) (Nat.le_of_ble_eq_true rfl) rfl (fun p e s m args below meth c ls X I hl => ?_)
  have hl : lv_has ls 2 [(0, .ref (G.2.1 0)), (1, .int x1)] := hl
  obtain ⟨E, hE⟩ : ∃ E, E = (f11_status σ x1) := ⟨_, rfl⟩
  rw [← hE]
  refine lv_iload_n X.1 X.2.1 dX11_status_0 rfl (lv_at hl 1 rfl) ?_
  refine lv_if_lt (tgt := 22) X.1 X.2.1 dX11_status_1 (by decide) (fun c_1 => ?_) (fun c_1 => ?_)
  · skip
    refine lv_iconst (v := (-1)) X.1 X.2.1 dX11_status_22 (by decide) ?_
    have h9 := hE.trans ((if_pos c_1).trans rfl)
    exact r_iret X I (e_i (h9).symm rfl rfl) dX11_status_23
  · skip
    refine lv_iload_n X.1 X.2.1 dX11_status_4 rfl (lv_at hl 1 rfl) ?_
    refine lv_aload_n X.1 X.2.1 dX11_status_5 rfl (lv_at hl 0 rfl) ?_
    refine g11_10 X I (k := 0) (by decide) rfl lf_X11_83 dX11_status_6 ?_
    refine r_alen X I (k := 39) (n := 5) (by decide) rfl (v := 5) rfl dX11_status_9 ?_
    refine lv_icmp_ge (tgt := 22) X.1 X.2.1 dX11_status_10 (by decide) (fun c_2 => ?_) (fun c_2 => ?_)
    · skip
      refine lv_iconst (v := (-1)) X.1 X.2.1 dX11_status_22 (by decide) ?_
      have h9 := hE.trans ((if_neg c_1).trans ((if_pos c_2).trans rfl))
      exact r_iret X I (e_i (h9).symm rfl rfl) dX11_status_23
    · skip
      refine lv_aload_n X.1 X.2.1 dX11_status_13 rfl (lv_at hl 0 rfl) ?_
      refine g11_10 X I (k := 0) (by decide) rfl lf_X11_83 dX11_status_14 ?_
      refine lv_iload_n X.1 X.2.1 dX11_status_17 rfl (lv_at hl 1 rfl) ?_
      refine r_ald X I (k := 39) (n := 5) (by decide) rfl (vp_g (n := 5) (by decide) c_1 c_2) dX11_status_18 ?_
      refine lv_goto (tgt := 23) X.1 X.2.1 dX11_status_19 (by decide) ?_
      have h9 := hE.trans ((if_neg c_1).trans ((if_neg c_2).trans rfl))
      exact r_iret X I (e_i (h9).symm rfl rfl) dX11_status_23
def f11_undo (σ : SI) : Int32 × SI := let r0 := (f5_takeBack 24 σ); if r0.1 = true then ((f5_kept r0.2), r0.2) else ((-1 : Int32), r0.2)
theorem w_f11_undo (σ : SI) (a : Nat) (h0 : a ≠ 24) (h1 : a ≠ 25) (h2 : a ≠ 26) : (f11_undo σ).2 a = σ a := by
  unfold f11_undo
  (repeat' split) <;> (first | rfl | (simp only [sp_n, su_n, ne_eq, not_false_eq_true, h0, h1, h2, w_f5_takeBack]; done) | (simp [sp_n, su_n, ne_eq, not_false_eq_true, h0, h1, h2, w_f5_takeBack]; done))
set_option maxHeartbeats 4000000 in
set_option maxRecDepth 100000 in
theorem c11_undo (l : Launch) (G : GT) (σ : SI) (τ : SL) : Mc l yX11_undo cX11_undo 1 (some .int) 4 G [.ref (G.2.1 0)] σ τ (Qi G (Ei (f11_undo σ).1 (f11_undo σ).2 τ)) := by
  refine m_start (by decide +kernel) (Nat.le_of_ble_eq_true rfl) rfl (fun p e s m args below meth c ls X I hl => ?_)
  have hl : lv_has ls 1 [(0, .ref (G.2.1 0))] := hl
  obtain ⟨E, hE⟩ : ∃ E, E = (f11_undo σ) := ⟨_, rfl⟩
  rw [← hE]
  refine lv_aload_n X.1 X.2.1 dX11_undo_0 rfl (lv_at hl 0 rfl) ?_
  refine g11_6 X I (k := 0) (by decide) rfl lf_X11_56 dX11_undo_1 ?_
  refine lv_aload_n X.1 X.2.1 dX11_undo_4 rfl (lv_at hl 0 rfl) ?_
  refine g11_5 X I (k := 0) (by decide) rfl lf_X11_49 dX11_undo_5 ?_
  refine r_ei I (r_runV X I pk_X5_takeBack (c5_takeBack l G (k1 := 24) ⟨by decide, rfl, rfl⟩ _ _) lm_X11_303 (by decide) (cl_5 rfl) rfl rfl rfl hl.1 rfl (Nat.le_of_ble_eq_true rfl) dX11_undo_8 ⟨Nat.le_of_ble_eq_true rfl, Nat.le_of_ble_eq_true rfl⟩ ⟨Nat.le_refl 0, Nat.le_refl 0⟩) (fun H locs I => ?_)
  refine lv_if_eq (tgt := 24) X.1 X.2.1 dX11_undo_11 (by decide) (fun c_1 => ?_) (fun c_1 => ?_)
  · skip
    refine lv_iconst (v := (-1)) X.1 X.2.1 dX11_undo_24 (by decide) ?_
    have h9 := hE.trans ((if_neg (b2i_n c_1)).trans rfl)
    exact r_iret X I (e_i (congrArg Prod.fst h9).symm (congrArg Prod.snd h9).symm rfl) dX11_undo_25
  · skip
    refine lv_aload_n X.1 X.2.1 dX11_undo_14 rfl (lv_at hl 0 rfl) ?_
    refine g11_6 X I (k := 0) (by decide) rfl lf_X11_56 dX11_undo_15 ?_
    refine r_ei I (r_runV X I pk_X5_kept (c5_kept l G _ _) lm_X11_307 (by decide) (cl_5 rfl) rfl rfl rfl hl.1 rfl (Nat.le_of_ble_eq_true rfl) dX11_undo_18 ⟨Nat.le_of_ble_eq_true rfl, Nat.le_of_ble_eq_true rfl⟩ ⟨Nat.le_refl 0, Nat.le_refl 0⟩) (fun H locs I => ?_)
    refine lv_goto (tgt := 25) X.1 X.2.1 dX11_undo_21 (by decide) ?_
    have h9 := hE.trans ((if_pos (b2i_y c_1)).trans rfl)
    exact r_iret X I (e_i (congrArg Prod.fst h9).symm (congrArg Prod.snd h9).symm rfl) dX11_undo_25
def f11_log (σ : SI) (x1 : Int32) (x2 : Int32) : Int32 := (f5_noted 24 σ x1 x2)
set_option maxHeartbeats 4000000 in
set_option maxRecDepth 100000 in
theorem c11_log (l : Launch) (G : GT) (σ : SI) (τ : SL) (x1 : Int32) (x2 : Int32) : Mc l yX11_log cX11_log 3 (some .int) 3 G [.ref (G.2.1 0), .int x1, .int x2] σ τ (Qi G (Ei (f11_log σ x1 x2) σ τ)) := by
  refine m_start (by decide +kernel) (Nat.le_of_ble_eq_true rfl) rfl (fun p e s m args below meth c ls X I hl => ?_)
  have hl : lv_has ls 3 [(0, .ref (G.2.1 0)), (1, .int x1), (2, .int x2)] := hl
  obtain ⟨E, hE⟩ : ∃ E, E = (f11_log σ x1 x2) := ⟨_, rfl⟩
  rw [← hE]
  refine lv_aload_n X.1 X.2.1 dX11_log_0 rfl (lv_at hl 0 rfl) ?_
  refine g11_6 X I (k := 0) (by decide) rfl lf_X11_56 dX11_log_1 ?_
  refine lv_aload_n X.1 X.2.1 dX11_log_4 rfl (lv_at hl 0 rfl) ?_
  refine g11_5 X I (k := 0) (by decide) rfl lf_X11_49 dX11_log_5 ?_
  refine lv_iload_n X.1 X.2.1 dX11_log_8 rfl (lv_at hl 1 rfl) ?_
  refine lv_iload_n X.1 X.2.1 dX11_log_9 rfl (lv_at hl 2 rfl) ?_
  refine r_ei I (r_runV X I pk_X5_noted (c5_noted l G (k1 := 24) ⟨by decide, rfl, rfl⟩ _ _ _ _) lm_X11_310 (by decide) (cl_5 rfl) rfl rfl rfl hl.1 rfl (Nat.le_of_ble_eq_true rfl) dX11_log_10 ⟨Nat.le_of_ble_eq_true rfl, Nat.le_of_ble_eq_true rfl⟩ ⟨Nat.le_refl 0, Nat.le_refl 0⟩) (fun H locs I => ?_)
  have h9 := hE
  exact r_iret X I (e_i (h9).symm rfl rfl) dX11_log_13
def f11_route (σ : SI) (x1 : Int32) : Int32 × SI := if (f8_isTold 10 σ) = true then (if x1 < (0 : Int32) then ((-1 : Int32), σ) else (if x1 ≤ (2 : Int32) then (let s0 := (f4_findRoute σ); if x1 = (0 : Int32) then (if (s0 32 10) = (0 : Int32) then ((-1 : Int32), s0) else ((s0 32 9), s0)) else (if x1 = (1 : Int32) then ((s0 32 11), s0) else ((s0 32 12), s0))) else ((-1 : Int32), σ))) else ((-1 : Int32), σ)
theorem w_f11_route (σ : SI) (x1 : Int32) (a : Nat) (h0 : a ≠ 13) (h1 : a ≠ 15) (h2 : a ≠ 32) : (f11_route σ x1).2 a = σ a := by
  unfold f11_route
  (repeat' split) <;> (first | rfl | (simp only [sp_n, su_n, ne_eq, not_false_eq_true, h0, h1, h2, w_f4_findRoute]; done) | (simp [sp_n, su_n, ne_eq, not_false_eq_true, h0, h1, h2, w_f4_findRoute]; done))
set_option maxHeartbeats 4000000 in
set_option maxRecDepth 100000 in
theorem c11_route (l : Launch) (G : GT) (σ : SI) (τ : SL) (x1 : Int32) : Mc l yX11_route cX11_route 2 (some .int) 30 G [.ref (G.2.1 0), .int x1] σ τ (Qi G (Ei (f11_route σ x1).1 (f11_route σ x1).2 τ)) := by
  refine m_start (by decide +kernel) (Nat.le_of_ble_eq_true rfl) rfl (fun p e s m args below meth c ls X I hl => ?_)
  have hl : lv_has ls 2 [(0, .ref (G.2.1 0)), (1, .int x1)] := hl
  obtain ⟨E, hE⟩ : ∃ E, E = (f11_route σ x1) := ⟨_, rfl⟩
  rw [← hE]
  refine lv_aload_n X.1 X.2.1 dX11_route_0 rfl (lv_at hl 0 rfl) ?_
  refine g11_3 X I (k := 0) (by decide) rfl lf_X11_35 dX11_route_1 ?_
  refine r_ei I (r_runV X I pk_X8_isTold (c8_isTold l G (k := 10) ⟨by decide, rfl, rfl, rfl⟩ _ _) lm_X11_158 (by decide) (cl_8 rfl) rfl rfl rfl hl.1 rfl (Nat.le_of_ble_eq_true rfl) dX11_route_4 ⟨Nat.le_of_ble_eq_true rfl, Nat.le_of_ble_eq_true rfl⟩ ⟨Nat.le_refl 0, Nat.le_refl 0⟩) (fun H locs I => ?_)
  refine lv_if_eq (tgt := 19) X.1 X.2.1 dX11_route_7 (by decide) (fun c_1 => ?_) (fun c_1 => ?_)
  · skip
    refine lv_iconst (v := (-1)) X.1 X.2.1 dX11_route_19 (by decide) ?_
    have h9 := hE.trans ((if_neg (b2i_n c_1)).trans rfl)
    exact r_iret X I (e_i (congrArg Prod.fst h9).symm (congrArg Prod.snd h9).symm rfl) dX11_route_20
  · skip
    refine lv_iload_n X.1 X.2.1 dX11_route_10 rfl (lv_at hl 1 rfl) ?_
    refine lv_if_lt (tgt := 19) X.1 X.2.1 dX11_route_11 (by decide) (fun c_2 => ?_) (fun c_2 => ?_)
    · skip
      refine lv_iconst (v := (-1)) X.1 X.2.1 dX11_route_19 (by decide) ?_
      have h9 := hE.trans ((if_pos (b2i_y c_1)).trans ((if_pos c_2).trans rfl))
      exact r_iret X I (e_i (congrArg Prod.fst h9).symm (congrArg Prod.snd h9).symm rfl) dX11_route_20
    · skip
      refine lv_iload_n X.1 X.2.1 dX11_route_14 rfl (lv_at hl 1 rfl) ?_
      refine lv_iconst (v := 2) X.1 X.2.1 dX11_route_15 (by decide) ?_
      refine lv_icmp_le (tgt := 21) X.1 X.2.1 dX11_route_16 (by decide) (fun c_3 => ?_) (fun c_3 => ?_)
      · skip
        refine lv_aload_n X.1 X.2.1 dX11_route_21 rfl (lv_at hl 0 rfl) ?_
        refine g11_7 X I (k := 0) (by decide) rfl lf_X11_65 dX11_route_22 ?_
        refine r_ev I (r_runV X I pk_X4_findRoute (c4_findRoute l G _ _) lm_X11_314 (by decide) (cl_4 rfl) rfl rfl rfl hl.1 rfl (Nat.le_of_ble_eq_true rfl) dX11_route_25 ⟨Nat.le_of_ble_eq_true rfl, Nat.le_of_ble_eq_true rfl⟩ ⟨Nat.le_refl 0, Nat.le_refl 0⟩) (fun H locs I => ?_)
        refine lv_iload_n X.1 X.2.1 dX11_route_28 rfl (lv_at hl 1 rfl) ?_
        refine lv_if_ne (tgt := 54) X.1 X.2.1 dX11_route_29 (by decide) (fun c_4 => ?_) (fun c_4 => ?_)
        · skip
          refine lv_iload_n X.1 X.2.1 dX11_route_54 rfl (lv_at hl 1 rfl) ?_
          refine lv_iconst (v := 1) X.1 X.2.1 dX11_route_55 (by decide) ?_
          refine lv_icmp_ne (tgt := 69) X.1 X.2.1 dX11_route_56 (by decide) (fun c_5 => ?_) (fun c_5 => ?_)
          · skip
            refine lv_aload_n X.1 X.2.1 dX11_route_69 rfl (lv_at hl 0 rfl) ?_
            refine g11_7 X I (k := 0) (by decide) rfl lf_X11_65 dX11_route_70 ?_
            refine g4_12 X I (k := 32) (by decide) rfl lf_X11_326 dX11_route_73 ?_
            have h9 := hE.trans ((if_pos (b2i_y c_1)).trans ((if_neg c_2).trans ((if_pos c_3).trans ((if_neg c_4).trans ((if_neg c_5).trans rfl)))))
            exact r_iret X I (e_i (congrArg Prod.fst h9).symm (congrArg Prod.snd h9).symm rfl) dX11_route_76
          · skip
            refine lv_aload_n X.1 X.2.1 dX11_route_59 rfl (lv_at hl 0 rfl) ?_
            refine g11_7 X I (k := 0) (by decide) rfl lf_X11_65 dX11_route_60 ?_
            refine g4_11 X I (k := 32) (by decide) rfl lf_X11_323 dX11_route_63 ?_
            refine lv_goto (tgt := 76) X.1 X.2.1 dX11_route_66 (by decide) ?_
            have h9 := hE.trans ((if_pos (b2i_y c_1)).trans ((if_neg c_2).trans ((if_pos c_3).trans ((if_neg c_4).trans ((if_pos c_5).trans rfl)))))
            exact r_iret X I (e_i (congrArg Prod.fst h9).symm (congrArg Prod.snd h9).symm rfl) dX11_route_76
        · skip
          refine lv_aload_n X.1 X.2.1 dX11_route_32 rfl (lv_at hl 0 rfl) ?_
          refine g11_7 X I (k := 0) (by decide) rfl lf_X11_65 dX11_route_33 ?_
          refine g4_10 X I (k := 32) (by decide) rfl lf_X11_317 dX11_route_36 ?_
          refine lv_if_ne (tgt := 46) X.1 X.2.1 dX11_route_39 (by decide) (fun c_6 => ?_) (fun c_6 => ?_)
          · skip
            refine lv_aload_n X.1 X.2.1 dX11_route_46 rfl (lv_at hl 0 rfl) ?_
            refine g11_7 X I (k := 0) (by decide) rfl lf_X11_65 dX11_route_47 ?_
            refine g4_9 X I (k := 32) (by decide) rfl lf_X11_320 dX11_route_50 ?_
            have h9 := hE.trans ((if_pos (b2i_y c_1)).trans ((if_neg c_2).trans ((if_pos c_3).trans ((if_pos c_4).trans ((if_neg c_6).trans rfl)))))
            exact r_iret X I (e_i (congrArg Prod.fst h9).symm (congrArg Prod.snd h9).symm rfl) dX11_route_53
          · skip
            refine lv_iconst (v := (-1)) X.1 X.2.1 dX11_route_42 (by decide) ?_
            refine lv_goto (tgt := 53) X.1 X.2.1 dX11_route_43 (by decide) ?_
            have h9 := hE.trans ((if_pos (b2i_y c_1)).trans ((if_neg c_2).trans ((if_pos c_3).trans ((if_pos c_4).trans ((if_pos c_6).trans rfl)))))
            exact r_iret X I (e_i (congrArg Prod.fst h9).symm (congrArg Prod.snd h9).symm rfl) dX11_route_53
      · skip
        refine lv_iconst (v := (-1)) X.1 X.2.1 dX11_route_19 (by decide) ?_
        have h9 := hE.trans ((if_pos (b2i_y c_1)).trans ((if_neg c_2).trans ((if_neg c_3).trans rfl)))
        exact r_iret X I (e_i (congrArg Prod.fst h9).symm (congrArg Prod.snd h9).symm rfl) dX11_route_20
def f11_orderNow_c9 : Nat → Int32 → SI → SI
  | 0, _, σ => σ
  | fu + 1, v1, σ => if (f8_houses 10 σ) ≤ v1 then σ else (if (f0_wasAt 24 σ v1) = true then (f11_orderNow_c9 fu (v1 + 1) σ) else (let s1 := (f6_put σ v1 (f0_grievanceOf 24 σ v1)); (f11_orderNow_c9 fu (v1 + 1) s1)))
def f11_orderNow (σ : SI) : SI := let s0 := (f6_clear σ); (f11_orderNow_c9 ((Int32.toInt (f8_houses 10 s0) - Int32.toInt (0 : Int32)).toNat + 1) (0 : Int32) s0)
theorem w_f11_orderNow_c9 (a : Nat) (h0 : a ≠ 36) (h1 : a ≠ 37) (h2 : a ≠ 38) : ∀ (fu : Nat) (v1 : Int32) (σ : SI), (f11_orderNow_c9 fu v1 σ) a = σ a := by
  intro fu
  induction fu with
  | zero => intros; rfl
  | succ fu ih =>
    intro v1 σ
    unfold f11_orderNow_c9
    (repeat' split) <;> (first | rfl | (simp only [sp_n, su_n, ne_eq, not_false_eq_true, h0, h1, h2, w_f6_clear, w_f6_put, ih]; done) | (simp [sp_n, su_n, ne_eq, not_false_eq_true, h0, h1, h2, w_f6_clear, w_f6_put, ih]; done))
theorem w_f11_orderNow (σ : SI) (a : Nat) (h0 : a ≠ 36) (h1 : a ≠ 37) (h2 : a ≠ 38) : (f11_orderNow σ) a = σ a := by
  unfold f11_orderNow
  (repeat' split) <;> (first | rfl | (simp only [sp_n, su_n, ne_eq, not_false_eq_true, h0, h1, h2, w_f6_clear, w_f6_put, w_f11_orderNow_c9]; done) | (simp [sp_n, su_n, ne_eq, not_false_eq_true, h0, h1, h2, w_f6_clear, w_f6_put, w_f11_orderNow_c9]; done))
set_option maxHeartbeats 4000000 in
set_option maxRecDepth 100000 in
theorem c11_orderNow_c9 {l : Launch} {p : Program} {e : Env} {s : State} {m : MethodId} {args : Array Value} {below : List Frame} {meth : Method} {c : Code} {G : GT} (X : CX p s m args meth c cX11_orderNow RX11 2 none G) {E : SI} (τ : SL) : ∀ (fu : Nat) (v1 : Int32) (σ : SI) (H : Heap) (locs : List Loc) (ls : Array Slot), IX G s H locs σ τ → lv_has ls 2 [(0, .ref (G.2.1 0)), (1, .int v1)] → (Int32.toInt (f8_houses 10 σ) - Int32.toInt v1).toNat < fu → E = (f11_orderNow_c9 fu v1 σ) → W p l e (rmN 2) s m args below meth c H locs 0 0 (MQ below ((Qv G (Ev E τ)) s.heap.size) args s 0 0 (AW G s.heap.size)) (F0 m 9 ls []) := by
  intro fu
  induction fu with
  | zero =>
    intro v1 σ H locs ls I hl  hm hE
    exact absurd hm (Nat.not_lt_zero _)
  | succ fu ih =>
    intro v1 σ H locs ls I hl  hm hE
    refine lv_iload_n X.1 X.2.1 dX11_orderNow_9 rfl (lv_at hl 1 rfl) ?_
    refine lv_aload_n X.1 X.2.1 dX11_orderNow_10 rfl (lv_at hl 0 rfl) ?_
    refine g11_3 X I (k := 0) (by decide) rfl lf_X11_35 dX11_orderNow_11 ?_
    refine r_ei I (r_runV X I pk_X8_houses (c8_houses l G (k := 10) ⟨by decide, rfl, rfl, rfl⟩ _ _) lm_X11_155 (by decide) (cl_8 rfl) rfl rfl rfl hl.1 rfl (Nat.le_of_ble_eq_true rfl) dX11_orderNow_14 ⟨Nat.le_of_ble_eq_true rfl, Nat.le_of_ble_eq_true rfl⟩ ⟨Nat.le_refl 0, Nat.le_refl 0⟩) (fun H locs I => ?_)
    refine lv_icmp_ge (tgt := 53) X.1 X.2.1 dX11_orderNow_17 (by decide) (fun c_1 => ?_) (fun c_1 => ?_)
    · skip
      have h9 := hE.trans ((if_pos c_1).trans rfl)
      exact r_vret X I (e_v (h9).symm rfl) dX11_orderNow_53
    · skip
      refine lv_aload_n X.1 X.2.1 dX11_orderNow_20 rfl (lv_at hl 0 rfl) ?_
      refine g11_5 X I (k := 0) (by decide) rfl lf_X11_49 dX11_orderNow_21 ?_
      refine lv_iload_n X.1 X.2.1 dX11_orderNow_24 rfl (lv_at hl 1 rfl) ?_
      refine r_ei I (r_runV X I pk_X0_wasAt (c0_wasAt l G (k := 24) ⟨by decide, rfl, rfl⟩ _ _ _) lm_X11_191 (by decide) (cl_0 rfl) rfl rfl rfl hl.1 rfl (Nat.le_of_ble_eq_true rfl) dX11_orderNow_25 ⟨Nat.le_of_ble_eq_true rfl, Nat.le_of_ble_eq_true rfl⟩ ⟨Nat.le_refl 0, Nat.le_refl 0⟩) (fun H locs I => ?_)
      refine lv_if_ne (tgt := 47) X.1 X.2.1 dX11_orderNow_28 (by decide) (fun c_2 => ?_) (fun c_2 => ?_)
      · skip
        refine lv_iinc (v := _ + 1) (lv' := [(1, .int _), (0, .ref _)]) X.1 X.2.1 dX11_orderNow_47 hl (k := 1) rfl rfl (by decide) rfl (fun ls hl => ?_)
        refine lv_goto (tgt := 9) X.1 X.2.1 dX11_orderNow_50 (by decide) ?_
        exact ih _ _ _ _ _ I (lv_sub hl [1, 0] rfl) (Nat.lt_of_lt_of_le (dec_c (by first | rfl | simp [f8_houses, f11_cell, w_f6_clear, w_f6_put, sp_n]) (up_dec c_1)) (Nat.le_of_lt_succ hm)) (hE.trans ((if_neg c_1).trans ((if_pos (b2i_y c_2)).trans rfl)))
      · skip
        refine lv_aload_n X.1 X.2.1 dX11_orderNow_31 rfl (lv_at hl 0 rfl) ?_
        refine g11_9 X I (k := 0) (by decide) rfl lf_X11_79 dX11_orderNow_32 ?_
        refine lv_iload_n X.1 X.2.1 dX11_orderNow_35 rfl (lv_at hl 1 rfl) ?_
        refine lv_aload_n X.1 X.2.1 dX11_orderNow_36 rfl (lv_at hl 0 rfl) ?_
        refine g11_5 X I (k := 0) (by decide) rfl lf_X11_49 dX11_orderNow_37 ?_
        refine lv_iload_n X.1 X.2.1 dX11_orderNow_40 rfl (lv_at hl 1 rfl) ?_
        refine r_ei I (r_runV X I pk_X0_grievanceOf (c0_grievanceOf l G (k := 24) ⟨by decide, rfl, rfl⟩ _ _ _) lm_X11_185 (by decide) (cl_0 rfl) rfl rfl rfl hl.1 rfl (Nat.le_of_ble_eq_true rfl) dX11_orderNow_41 ⟨Nat.le_of_ble_eq_true rfl, Nat.le_of_ble_eq_true rfl⟩ ⟨Nat.le_refl 0, Nat.le_refl 0⟩) (fun H locs I => ?_)
        refine r_ev I (r_runV X I pk_X6_put (c6_put l G _ _ _ _) lm_X11_342 (by decide) (cl_6 rfl) rfl rfl rfl hl.1 rfl (Nat.le_of_ble_eq_true rfl) dX11_orderNow_44 ⟨Nat.le_of_ble_eq_true rfl, Nat.le_of_ble_eq_true rfl⟩ ⟨Nat.le_refl 0, Nat.le_refl 0⟩) (fun H locs I => ?_)
        refine lv_iinc (v := _ + 1) (lv' := [(1, .int _), (0, .ref _)]) X.1 X.2.1 dX11_orderNow_47 hl (k := 1) rfl rfl (by decide) rfl (fun ls hl => ?_)
        refine lv_goto (tgt := 9) X.1 X.2.1 dX11_orderNow_50 (by decide) ?_
        exact ih _ _ _ _ _ I (lv_sub hl [1, 0] rfl) (Nat.lt_of_lt_of_le (dec_c (by first | rfl | simp [f8_houses, f11_cell, w_f6_clear, w_f6_put, sp_n]) (up_dec c_1)) (Nat.le_of_lt_succ hm)) (hE.trans ((if_neg c_1).trans ((if_neg (b2i_n c_2)).trans rfl)))
set_option maxHeartbeats 4000000 in
set_option maxRecDepth 100000 in
theorem c11_orderNow (l : Launch) (G : GT) (σ : SI) (τ : SL) : Mc l yX11_orderNow cX11_orderNow 2 none 2 G [.ref (G.2.1 0)] σ τ (Qv G (Ev (f11_orderNow σ) τ)) := by
  refine m_start (by decide +kernel) (Nat.le_of_ble_eq_true rfl) rfl (fun p e s m args below meth c ls X I hl => ?_)
  have hl : lv_has ls 2 [(0, .ref (G.2.1 0))] := hl
  obtain ⟨E, hE⟩ : ∃ E, E = (f11_orderNow σ) := ⟨_, rfl⟩
  rw [← hE]
  refine lv_aload_n X.1 X.2.1 dX11_orderNow_0 rfl (lv_at hl 0 rfl) ?_
  refine g11_9 X I (k := 0) (by decide) rfl lf_X11_79 dX11_orderNow_1 ?_
  refine r_ev I (r_runV X I pk_X6_clear (c6_clear l G _ _) lm_X11_339 (by decide) (cl_6 rfl) rfl rfl rfl hl.1 rfl (Nat.le_of_ble_eq_true rfl) dX11_orderNow_4 ⟨Nat.le_of_ble_eq_true rfl, Nat.le_of_ble_eq_true rfl⟩ ⟨Nat.le_refl 0, Nat.le_refl 0⟩) (fun H locs I => ?_)
  refine lv_iconst (v := 0) X.1 X.2.1 dX11_orderNow_7 (by decide) ?_
  refine lv_istore_n (lv' := [(1, .int _), (0, .ref _)]) X.1 X.2.1 dX11_orderNow_8 rfl hl (by decide) rfl (fun ls hl => ?_)
  exact c11_orderNow_c9 X _  _ _ _ _ _ _ I (lv_sub hl [1, 0] rfl) (Nat.lt_succ_self _) (hE.trans (rfl))
def f11_order_c60 (x1 : Int32) : Nat → Int32 → SI → (Int32 × SI)
  | 0, _, σ => (0, σ)
  | fu + 1, v2, σ => if (f6_size σ) ≤ v2 then ((f6_size σ), σ) else (let r2 := (f4_comesTo σ (f6_houseAt σ v2)); if r2.1 = true then (f11_order_c60 x1 fu (v2 + 1) r2.2) else (v2, r2.2))
def f11_order (σ : SI) (x1 : Int32) : Int32 × SI := if (f8_isTold 10 σ) = true then (if x1 < (0 : Int32) then ((-1 : Int32), σ) else (if x1 ≤ (1 : Int32) then (let s0 := (f11_orderNow σ); if x1 = (0 : Int32) then (if (f6_size s0) = (0 : Int32) then ((-1 : Int32), s0) else ((f6_digits s0), s0)) else (let s1 := (f4_setOut s0); (f11_order_c60 x1 ((Int32.toInt (f6_size s1) - Int32.toInt (0 : Int32)).toNat + 1) (0 : Int32) s1))) else ((-1 : Int32), σ))) else ((-1 : Int32), σ)
theorem w_f11_order_c60 (x1 : Int32) (a : Nat) (h0 : a ≠ 13) (h1 : a ≠ 15) (h2 : a ≠ 32) (h3 : a ≠ 36) (h4 : a ≠ 37) (h5 : a ≠ 38) : ∀ (fu : Nat) (v2 : Int32) (σ : SI), (f11_order_c60 x1 fu v2 σ).2 a = σ a := by
  intro fu
  induction fu with
  | zero => intros; rfl
  | succ fu ih =>
    intro v2 σ
    unfold f11_order_c60
    (repeat' split) <;> (first | rfl | (simp only [sp_n, su_n, ne_eq, not_false_eq_true, h0, h1, h2, h3, h4, h5, w_f11_orderNow, w_f4_comesTo, w_f4_setOut, ih]; done) | (simp [sp_n, su_n, ne_eq, not_false_eq_true, h0, h1, h2, h3, h4, h5, w_f11_orderNow, w_f4_comesTo, w_f4_setOut, ih]; done))
theorem w_f11_order (σ : SI) (x1 : Int32) (a : Nat) (h0 : a ≠ 13) (h1 : a ≠ 15) (h2 : a ≠ 32) (h3 : a ≠ 36) (h4 : a ≠ 37) (h5 : a ≠ 38) : (f11_order σ x1).2 a = σ a := by
  unfold f11_order
  (repeat' split) <;> (first | rfl | (simp only [sp_n, su_n, ne_eq, not_false_eq_true, h0, h1, h2, h3, h4, h5, w_f11_orderNow, w_f4_comesTo, w_f4_setOut, w_f11_order_c60]; done) | (simp [sp_n, su_n, ne_eq, not_false_eq_true, h0, h1, h2, h3, h4, h5, w_f11_orderNow, w_f4_comesTo, w_f4_setOut, w_f11_order_c60]; done))
set_option maxHeartbeats 4000000 in
set_option maxRecDepth 100000 in
theorem c11_order_c60 {l : Launch} {p : Program} {e : Env} {s : State} {m : MethodId} {args : Array Value} {below : List Frame} {meth : Method} {c : Code} {G : GT} (X : CX p s m args meth c cX11_order RX11 3 (some .int) G) {E : Int32 × SI} (τ : SL) (x1 : Int32) : ∀ (fu : Nat) (v2 : Int32) (σ : SI) (H : Heap) (locs : List Loc) (ls : Array Slot), IX G s H locs σ τ → lv_has ls 3 [(0, .ref (G.2.1 0)), (1, .int x1), (2, .int v2)] → (Int32.toInt (f6_size σ) - Int32.toInt v2).toNat < fu → E = (f11_order_c60 x1 fu v2 σ) → W p l e (rmN 7) s m args below meth c H locs 0 0 (MQ below ((Qi G (Ei E.1 E.2 τ)) s.heap.size) args s 0 0 (AW G s.heap.size)) (F0 m 60 ls []) := by
  intro fu
  induction fu with
  | zero =>
    intro v2 σ H locs ls I hl  hm hE
    exact absurd hm (Nat.not_lt_zero _)
  | succ fu ih =>
    intro v2 σ H locs ls I hl  hm hE
    refine lv_iload_n X.1 X.2.1 dX11_order_60 rfl (lv_at hl 2 rfl) ?_
    refine lv_aload_n X.1 X.2.1 dX11_order_61 rfl (lv_at hl 0 rfl) ?_
    refine g11_9 X I (k := 0) (by decide) rfl lf_X11_79 dX11_order_62 ?_
    refine r_ei I (r_runV X I pk_X6_size (c6_size l G _ _) lm_X11_332 (by decide) (cl_6 rfl) rfl rfl rfl hl.1 rfl (Nat.le_of_ble_eq_true rfl) dX11_order_65 ⟨Nat.le_of_ble_eq_true rfl, Nat.le_of_ble_eq_true rfl⟩ ⟨Nat.le_refl 0, Nat.le_refl 0⟩) (fun H locs I => ?_)
    refine lv_icmp_ge (tgt := 97) X.1 X.2.1 dX11_order_68 (by decide) (fun c_5 => ?_) (fun c_5 => ?_)
    · skip
      refine lv_aload_n X.1 X.2.1 dX11_order_97 rfl (lv_at hl 0 rfl) ?_
      refine g11_9 X I (k := 0) (by decide) rfl lf_X11_79 dX11_order_98 ?_
      refine r_ei I (r_runV X I pk_X6_size (c6_size l G _ _) lm_X11_332 (by decide) (cl_6 rfl) rfl rfl rfl hl.1 rfl (Nat.le_of_ble_eq_true rfl) dX11_order_101 ⟨Nat.le_of_ble_eq_true rfl, Nat.le_of_ble_eq_true rfl⟩ ⟨Nat.le_refl 0, Nat.le_refl 0⟩) (fun H locs I => ?_)
      have h9 := hE.trans ((if_pos c_5).trans rfl)
      exact r_iret X I (e_i (congrArg Prod.fst h9).symm (congrArg Prod.snd h9).symm rfl) dX11_order_104
    · skip
      refine lv_aload_n X.1 X.2.1 dX11_order_71 rfl (lv_at hl 0 rfl) ?_
      refine g11_7 X I (k := 0) (by decide) rfl lf_X11_65 dX11_order_72 ?_
      refine lv_aload_n X.1 X.2.1 dX11_order_75 rfl (lv_at hl 0 rfl) ?_
      refine g11_9 X I (k := 0) (by decide) rfl lf_X11_79 dX11_order_76 ?_
      refine lv_iload_n X.1 X.2.1 dX11_order_79 rfl (lv_at hl 2 rfl) ?_
      refine r_ei I (r_runV X I pk_X6_houseAt (c6_houseAt l G _ _ _) lm_X11_336 (by decide) (cl_6 rfl) rfl rfl rfl hl.1 rfl (Nat.le_of_ble_eq_true rfl) dX11_order_80 ⟨Nat.le_of_ble_eq_true rfl, Nat.le_of_ble_eq_true rfl⟩ ⟨Nat.le_refl 0, Nat.le_refl 0⟩) (fun H locs I => ?_)
      refine r_ei I (r_runV X I pk_X4_comesTo (c4_comesTo l G _ _ _) lm_X11_235 (by decide) (cl_4 rfl) rfl rfl rfl hl.1 rfl (Nat.le_of_ble_eq_true rfl) dX11_order_83 ⟨Nat.le_of_ble_eq_true rfl, Nat.le_of_ble_eq_true rfl⟩ ⟨Nat.le_refl 0, Nat.le_refl 0⟩) (fun H locs I => ?_)
      refine lv_if_ne (tgt := 91) X.1 X.2.1 dX11_order_86 (by decide) (fun c_6 => ?_) (fun c_6 => ?_)
      · skip
        refine lv_iinc (v := _ + 1) (lv' := [(2, .int _), (0, .ref _), (1, .int _)]) X.1 X.2.1 dX11_order_91 hl (k := 2) rfl rfl (by decide) rfl (fun ls hl => ?_)
        refine lv_goto (tgt := 60) X.1 X.2.1 dX11_order_94 (by decide) ?_
        exact ih _ _ _ _ _ I (lv_sub hl [1, 2, 0] rfl) (Nat.lt_of_lt_of_le (dec_c (by first | rfl | simp [f6_size, w_f11_orderNow, w_f4_comesTo, w_f4_setOut, sp_n]) (up_dec c_5)) (Nat.le_of_lt_succ hm)) (hE.trans ((if_neg c_5).trans ((if_pos (b2i_y c_6)).trans rfl)))
      · skip
        refine lv_iload_n X.1 X.2.1 dX11_order_89 rfl (lv_at hl 2 rfl) ?_
        have h9 := hE.trans ((if_neg c_5).trans ((if_neg (b2i_n c_6)).trans rfl))
        exact r_iret X I (e_i (congrArg Prod.fst h9).symm (congrArg Prod.snd h9).symm rfl) dX11_order_90
set_option maxHeartbeats 4000000 in
set_option maxRecDepth 100000 in
theorem c11_order (l : Launch) (G : GT) (σ : SI) (τ : SL) (x1 : Int32) : Mc l yX11_order cX11_order 3 (some .int) 7 G [.ref (G.2.1 0), .int x1] σ τ (Qi G (Ei (f11_order σ x1).1 (f11_order σ x1).2 τ)) := by
  refine m_start (by decide +kernel) (Nat.le_of_ble_eq_true rfl) rfl (fun p e s m args below meth c ls X I hl => ?_)
  have hl : lv_has ls 3 [(0, .ref (G.2.1 0)), (1, .int x1)] := hl
  obtain ⟨E, hE⟩ : ∃ E, E = (f11_order σ x1) := ⟨_, rfl⟩
  rw [← hE]
  refine lv_aload_n X.1 X.2.1 dX11_order_0 rfl (lv_at hl 0 rfl) ?_
  refine g11_3 X I (k := 0) (by decide) rfl lf_X11_35 dX11_order_1 ?_
  refine r_ei I (r_runV X I pk_X8_isTold (c8_isTold l G (k := 10) ⟨by decide, rfl, rfl, rfl⟩ _ _) lm_X11_158 (by decide) (cl_8 rfl) rfl rfl rfl hl.1 rfl (Nat.le_of_ble_eq_true rfl) dX11_order_4 ⟨Nat.le_of_ble_eq_true rfl, Nat.le_of_ble_eq_true rfl⟩ ⟨Nat.le_refl 0, Nat.le_refl 0⟩) (fun H locs I => ?_)
  refine lv_if_eq (tgt := 19) X.1 X.2.1 dX11_order_7 (by decide) (fun c_1 => ?_) (fun c_1 => ?_)
  · skip
    refine lv_iconst (v := (-1)) X.1 X.2.1 dX11_order_19 (by decide) ?_
    have h9 := hE.trans ((if_neg (b2i_n c_1)).trans rfl)
    exact r_iret X I (e_i (congrArg Prod.fst h9).symm (congrArg Prod.snd h9).symm rfl) dX11_order_20
  · skip
    refine lv_iload_n X.1 X.2.1 dX11_order_10 rfl (lv_at hl 1 rfl) ?_
    refine lv_if_lt (tgt := 19) X.1 X.2.1 dX11_order_11 (by decide) (fun c_2 => ?_) (fun c_2 => ?_)
    · skip
      refine lv_iconst (v := (-1)) X.1 X.2.1 dX11_order_19 (by decide) ?_
      have h9 := hE.trans ((if_pos (b2i_y c_1)).trans ((if_pos c_2).trans rfl))
      exact r_iret X I (e_i (congrArg Prod.fst h9).symm (congrArg Prod.snd h9).symm rfl) dX11_order_20
    · skip
      refine lv_iload_n X.1 X.2.1 dX11_order_14 rfl (lv_at hl 1 rfl) ?_
      refine lv_iconst (v := 1) X.1 X.2.1 dX11_order_15 (by decide) ?_
      refine lv_icmp_le (tgt := 21) X.1 X.2.1 dX11_order_16 (by decide) (fun c_3 => ?_) (fun c_3 => ?_)
      · skip
        refine lv_aload_n X.1 X.2.1 dX11_order_21 rfl (lv_at hl 0 rfl) ?_
        refine r_ev I (r_runV X I pk_X11_orderNow (c11_orderNow l G _ _) lm_X11_329 (by decide) (cl_11 rfl) rfl rfl rfl hl.1 rfl (Nat.le_of_ble_eq_true rfl) dX11_order_22 ⟨Nat.le_of_ble_eq_true rfl, Nat.le_of_ble_eq_true rfl⟩ ⟨Nat.le_refl 0, Nat.le_refl 0⟩) (fun H locs I => ?_)
        refine lv_iload_n X.1 X.2.1 dX11_order_25 rfl (lv_at hl 1 rfl) ?_
        refine lv_if_ne (tgt := 51) X.1 X.2.1 dX11_order_26 (by decide) (fun c_4 => ?_) (fun c_4 => ?_)
        · skip
          refine lv_aload_n X.1 X.2.1 dX11_order_51 rfl (lv_at hl 0 rfl) ?_
          refine g11_7 X I (k := 0) (by decide) rfl lf_X11_65 dX11_order_52 ?_
          refine r_ev I (r_runV X I pk_X4_setOut (c4_setOut l G _ _) lm_X11_232 (by decide) (cl_4 rfl) rfl rfl rfl hl.1 rfl (Nat.le_of_ble_eq_true rfl) dX11_order_55 ⟨Nat.le_of_ble_eq_true rfl, Nat.le_of_ble_eq_true rfl⟩ ⟨Nat.le_refl 0, Nat.le_refl 0⟩) (fun H locs I => ?_)
          refine lv_iconst (v := 0) X.1 X.2.1 dX11_order_58 (by decide) ?_
          refine lv_istore_n (lv' := [(2, .int _), (0, .ref _), (1, .int _)]) X.1 X.2.1 dX11_order_59 rfl hl (by decide) rfl (fun ls hl => ?_)
          exact c11_order_c60 X _ _ _ _ _ _ _ _ I (lv_sub hl [1, 2, 0] rfl) (Nat.lt_succ_self _) (hE.trans ((if_pos (b2i_y c_1)).trans ((if_neg c_2).trans ((if_pos c_3).trans ((if_neg c_4).trans rfl)))))
        · skip
          refine lv_aload_n X.1 X.2.1 dX11_order_29 rfl (lv_at hl 0 rfl) ?_
          refine g11_9 X I (k := 0) (by decide) rfl lf_X11_79 dX11_order_30 ?_
          refine r_ei I (r_runV X I pk_X6_size (c6_size l G _ _) lm_X11_332 (by decide) (cl_6 rfl) rfl rfl rfl hl.1 rfl (Nat.le_of_ble_eq_true rfl) dX11_order_33 ⟨Nat.le_of_ble_eq_true rfl, Nat.le_of_ble_eq_true rfl⟩ ⟨Nat.le_refl 0, Nat.le_refl 0⟩) (fun H locs I => ?_)
          refine lv_if_ne (tgt := 43) X.1 X.2.1 dX11_order_36 (by decide) (fun c_7 => ?_) (fun c_7 => ?_)
          · skip
            refine lv_aload_n X.1 X.2.1 dX11_order_43 rfl (lv_at hl 0 rfl) ?_
            refine g11_9 X I (k := 0) (by decide) rfl lf_X11_79 dX11_order_44 ?_
            refine r_ei I (r_runV X I pk_X6_digits (c6_digits l G _ _) lm_X11_333 (by decide) (cl_6 rfl) rfl rfl rfl hl.1 rfl (Nat.le_of_ble_eq_true rfl) dX11_order_47 ⟨Nat.le_of_ble_eq_true rfl, Nat.le_of_ble_eq_true rfl⟩ ⟨Nat.le_refl 0, Nat.le_refl 0⟩) (fun H locs I => ?_)
            have h9 := hE.trans ((if_pos (b2i_y c_1)).trans ((if_neg c_2).trans ((if_pos c_3).trans ((if_pos c_4).trans ((if_neg c_7).trans rfl)))))
            exact r_iret X I (e_i (congrArg Prod.fst h9).symm (congrArg Prod.snd h9).symm rfl) dX11_order_50
          · skip
            refine lv_iconst (v := (-1)) X.1 X.2.1 dX11_order_39 (by decide) ?_
            refine lv_goto (tgt := 50) X.1 X.2.1 dX11_order_40 (by decide) ?_
            have h9 := hE.trans ((if_pos (b2i_y c_1)).trans ((if_neg c_2).trans ((if_pos c_3).trans ((if_pos c_4).trans ((if_pos c_7).trans rfl)))))
            exact r_iret X I (e_i (congrArg Prod.fst h9).symm (congrArg Prod.snd h9).symm rfl) dX11_order_50
      · skip
        refine lv_iconst (v := (-1)) X.1 X.2.1 dX11_order_19 (by decide) ?_
        have h9 := hE.trans ((if_pos (b2i_y c_1)).trans ((if_neg c_2).trans ((if_neg c_3).trans rfl)))
        exact r_iret X I (e_i (congrArg Prod.fst h9).symm (congrArg Prod.snd h9).symm rfl) dX11_order_20
def f11_shorter_c35 (x1 : Int32) (x2 : Int32) (x3 : Int32) : Nat → Int32 → SI → (Int32 × SI)
  | 0, _, σ => (0, σ)
  | fu + 1, v4, σ => if x3 < v4 then ((-1 : Int32), σ) else (let r0 := (f11_standsNow σ x1 (x3 - v4)); if x2 < r0.1 then (f11_shorter_c35 x1 x2 x3 fu (v4 + 1) r0.2) else (v4, r0.2))
def f11_shorter (σ : SI) (x1 : Int32) (x2 : Int32) : Int32 × SI := if (f8_isHouse 10 σ x1) = true then (if x2 < (0 : Int32) then ((-1 : Int32), σ) else (if x2 ≤ (60 : Int32) then (f11_shorter_c35 x1 x2 (f0_grievanceOf 24 σ x1) ((Int32.toInt (f0_grievanceOf 24 σ x1) + 1 - Int32.toInt (0 : Int32)).toNat + 1) (0 : Int32) σ) else ((-1 : Int32), σ))) else ((-1 : Int32), σ)
theorem w_f11_shorter_c35 (x1 : Int32) (x2 : Int32) (x3 : Int32) (a : Nat) (h0 : a ≠ 13) (h1 : a ≠ 15) : ∀ (fu : Nat) (v4 : Int32) (σ : SI), (f11_shorter_c35 x1 x2 x3 fu v4 σ).2 a = σ a := by
  intro fu
  induction fu with
  | zero => intros; rfl
  | succ fu ih =>
    intro v4 σ
    unfold f11_shorter_c35
    (repeat' split) <;> (first | rfl | (simp only [sp_n, su_n, ne_eq, not_false_eq_true, h0, h1, w_f11_standsNow, ih]; done) | (simp [sp_n, su_n, ne_eq, not_false_eq_true, h0, h1, w_f11_standsNow, ih]; done))
theorem w_f11_shorter (σ : SI) (x1 : Int32) (x2 : Int32) (a : Nat) (h0 : a ≠ 13) (h1 : a ≠ 15) : (f11_shorter σ x1 x2).2 a = σ a := by
  unfold f11_shorter
  (repeat' split) <;> (first | rfl | (simp only [sp_n, su_n, ne_eq, not_false_eq_true, h0, h1, w_f11_standsNow, w_f11_shorter_c35]; done) | (simp [sp_n, su_n, ne_eq, not_false_eq_true, h0, h1, w_f11_standsNow, w_f11_shorter_c35]; done))
set_option maxHeartbeats 4000000 in
set_option maxRecDepth 100000 in
theorem c11_shorter_c35 {l : Launch} {p : Program} {e : Env} {s : State} {m : MethodId} {args : Array Value} {below : List Frame} {meth : Method} {c : Code} {G : GT} (X : CX p s m args meth c cX11_shorter RX11 5 (some .int) G) {E : Int32 × SI} (τ : SL) (x1 : Int32) (x2 : Int32) (x3 : Int32) : ∀ (fu : Nat) (v4 : Int32) (σ : SI) (H : Heap) (locs : List Loc) (ls : Array Slot), IX G s H locs σ τ → lv_has ls 5 [(0, .ref (G.2.1 0)), (1, .int x1), (2, .int x2), (3, .int x3), (4, .int v4)] → Int32.toInt x3 < 2147483647 → (Int32.toInt x3 + 1 - Int32.toInt v4).toNat < fu → E = (f11_shorter_c35 x1 x2 x3 fu v4 σ) → W p l e (rmN 8) s m args below meth c H locs 0 0 (MQ below ((Qi G (Ei E.1 E.2 τ)) s.heap.size) args s 0 0 (AW G s.heap.size)) (F0 m 35 ls []) := by
  intro fu
  induction fu with
  | zero =>
    intro v4 σ H locs ls I hl hb hm hE
    exact absurd hm (Nat.not_lt_zero _)
  | succ fu ih =>
    intro v4 σ H locs ls I hl hb hm hE
    refine lv_iload X.1 X.2.1 dX11_shorter_35 (lv_at hl 4 rfl) ?_
    refine lv_iload_n X.1 X.2.1 dX11_shorter_37 rfl (lv_at hl 3 rfl) ?_
    refine lv_icmp_gt (tgt := 63) X.1 X.2.1 dX11_shorter_38 (by decide) (fun c_4 => ?_) (fun c_4 => ?_)
    · skip
      refine lv_iconst (v := (-1)) X.1 X.2.1 dX11_shorter_63 (by decide) ?_
      have h9 := hE.trans ((if_pos c_4).trans rfl)
      exact r_iret X I (e_i (congrArg Prod.fst h9).symm (congrArg Prod.snd h9).symm rfl) dX11_shorter_64
    · skip
      refine lv_aload_n X.1 X.2.1 dX11_shorter_41 rfl (lv_at hl 0 rfl) ?_
      refine lv_iload_n X.1 X.2.1 dX11_shorter_42 rfl (lv_at hl 1 rfl) ?_
      refine lv_iload_n X.1 X.2.1 dX11_shorter_43 rfl (lv_at hl 3 rfl) ?_
      refine lv_iload X.1 X.2.1 dX11_shorter_44 (lv_at hl 4 rfl) ?_
      refine lv_isub X.1 X.2.1 dX11_shorter_46 ?_
      refine r_ei I (r_runV X I pk_X11_standsNow (c11_standsNow l G _ _ _ _) lm_X11_210 (by decide) (cl_11 rfl) rfl rfl rfl hl.1 rfl (Nat.le_of_ble_eq_true rfl) dX11_shorter_47 ⟨Nat.le_of_ble_eq_true rfl, Nat.le_of_ble_eq_true rfl⟩ ⟨Nat.le_refl 0, Nat.le_refl 0⟩) (fun H locs I => ?_)
      refine lv_iload_n X.1 X.2.1 dX11_shorter_50 rfl (lv_at hl 2 rfl) ?_
      refine lv_icmp_gt (tgt := 57) X.1 X.2.1 dX11_shorter_51 (by decide) (fun c_5 => ?_) (fun c_5 => ?_)
      · skip
        refine lv_iinc (v := _ + 1) (lv' := [(4, .int _), (0, .ref _), (1, .int _), (2, .int _), (3, .int _)]) X.1 X.2.1 dX11_shorter_57 hl (k := 4) rfl rfl (by decide) rfl (fun ls hl => ?_)
        refine lv_goto (tgt := 35) X.1 X.2.1 dX11_shorter_60 (by decide) ?_
        exact ih _ _ _ _ _ I (lv_sub hl [1, 2, 3, 4, 0] rfl) (hb) (Nat.lt_of_lt_of_le (up_decE hb c_4) (Nat.le_of_lt_succ hm)) (hE.trans ((if_neg c_4).trans ((if_pos c_5).trans rfl)))
      · skip
        refine lv_iload X.1 X.2.1 dX11_shorter_54 (lv_at hl 4 rfl) ?_
        have h9 := hE.trans ((if_neg c_4).trans ((if_neg c_5).trans rfl))
        exact r_iret X I (e_i (congrArg Prod.fst h9).symm (congrArg Prod.snd h9).symm rfl) dX11_shorter_56
set_option maxHeartbeats 4000000 in
set_option maxRecDepth 100000 in
theorem c11_shorter (l : Launch) (G : GT) (σ : SI) (τ : SL) (x1 : Int32) (x2 : Int32) (hg : Int32.toInt (f0_grievanceOf 24 σ x1) < 2147483647) : Mc l yX11_shorter cX11_shorter 5 (some .int) 8 G [.ref (G.2.1 0), .int x1, .int x2] σ τ (Qi G (Ei (f11_shorter σ x1 x2).1 (f11_shorter σ x1 x2).2 τ)) := by
  refine m_start (by decide +kernel) (Nat.le_of_ble_eq_true rfl) rfl (fun p e s m args below meth c ls X I hl => ?_)
  have hl : lv_has ls 5 [(0, .ref (G.2.1 0)), (1, .int x1), (2, .int x2)] := hl
  obtain ⟨E, hE⟩ : ∃ E, E = (f11_shorter σ x1 x2) := ⟨_, rfl⟩
  rw [← hE]
  refine lv_aload_n X.1 X.2.1 dX11_shorter_0 rfl (lv_at hl 0 rfl) ?_
  refine g11_3 X I (k := 0) (by decide) rfl lf_X11_35 dX11_shorter_1 ?_
  refine lv_iload_n X.1 X.2.1 dX11_shorter_4 rfl (lv_at hl 1 rfl) ?_
  refine r_ei I (r_runV X I pk_X8_isHouse (c8_isHouse l G (k := 10) ⟨by decide, rfl, rfl, rfl⟩ _ _ _) lm_X11_173 (by decide) (cl_8 rfl) rfl rfl rfl hl.1 rfl (Nat.le_of_ble_eq_true rfl) dX11_shorter_5 ⟨Nat.le_of_ble_eq_true rfl, Nat.le_of_ble_eq_true rfl⟩ ⟨Nat.le_refl 0, Nat.le_refl 0⟩) (fun H locs I => ?_)
  refine lv_if_eq (tgt := 21) X.1 X.2.1 dX11_shorter_8 (by decide) (fun c_1 => ?_) (fun c_1 => ?_)
  · skip
    refine lv_iconst (v := (-1)) X.1 X.2.1 dX11_shorter_21 (by decide) ?_
    have h9 := hE.trans ((if_neg (b2i_n c_1)).trans rfl)
    exact r_iret X I (e_i (congrArg Prod.fst h9).symm (congrArg Prod.snd h9).symm rfl) dX11_shorter_22
  · skip
    refine lv_iload_n X.1 X.2.1 dX11_shorter_11 rfl (lv_at hl 2 rfl) ?_
    refine lv_if_lt (tgt := 21) X.1 X.2.1 dX11_shorter_12 (by decide) (fun c_2 => ?_) (fun c_2 => ?_)
    · skip
      refine lv_iconst (v := (-1)) X.1 X.2.1 dX11_shorter_21 (by decide) ?_
      have h9 := hE.trans ((if_pos (b2i_y c_1)).trans ((if_pos c_2).trans rfl))
      exact r_iret X I (e_i (congrArg Prod.fst h9).symm (congrArg Prod.snd h9).symm rfl) dX11_shorter_22
    · skip
      refine lv_iload_n X.1 X.2.1 dX11_shorter_15 rfl (lv_at hl 2 rfl) ?_
      refine lv_bipush (v := 60) X.1 X.2.1 dX11_shorter_16 (by decide) ?_
      refine lv_icmp_le (tgt := 23) X.1 X.2.1 dX11_shorter_18 (by decide) (fun c_3 => ?_) (fun c_3 => ?_)
      · skip
        refine lv_aload_n X.1 X.2.1 dX11_shorter_23 rfl (lv_at hl 0 rfl) ?_
        refine g11_5 X I (k := 0) (by decide) rfl lf_X11_49 dX11_shorter_24 ?_
        refine lv_iload_n X.1 X.2.1 dX11_shorter_27 rfl (lv_at hl 1 rfl) ?_
        refine r_ei I (r_runV X I pk_X0_grievanceOf (c0_grievanceOf l G (k := 24) ⟨by decide, rfl, rfl⟩ _ _ _) lm_X11_185 (by decide) (cl_0 rfl) rfl rfl rfl hl.1 rfl (Nat.le_of_ble_eq_true rfl) dX11_shorter_28 ⟨Nat.le_of_ble_eq_true rfl, Nat.le_of_ble_eq_true rfl⟩ ⟨Nat.le_refl 0, Nat.le_refl 0⟩) (fun H locs I => ?_)
        refine lv_istore_n (lv' := [(3, .int _), (0, .ref _), (1, .int _), (2, .int _)]) X.1 X.2.1 dX11_shorter_31 rfl hl (by decide) rfl (fun ls hl => ?_)
        refine lv_iconst (v := 0) X.1 X.2.1 dX11_shorter_32 (by decide) ?_
        refine lv_istore (lv' := [(4, .int _), (3, .int _), (0, .ref _), (1, .int _), (2, .int _)]) X.1 X.2.1 dX11_shorter_33 hl (by decide) rfl (fun ls hl => ?_)
        exact c11_shorter_c35 X _ _ _ _ _ _ _ _ _ _ I (lv_sub hl [2, 3, 4, 1, 0] rfl) (hg) (Nat.lt_succ_self _) (hE.trans ((if_pos (b2i_y c_1)).trans ((if_neg c_2).trans ((if_pos c_3).trans rfl))))
      · skip
        refine lv_iconst (v := (-1)) X.1 X.2.1 dX11_shorter_21 (by decide) ?_
        have h9 := hE.trans ((if_pos (b2i_y c_1)).trans ((if_neg c_2).trans ((if_neg c_3).trans rfl)))
        exact r_iret X I (e_i (congrArg Prod.fst h9).symm (congrArg Prod.snd h9).symm rfl) dX11_shorter_22
def f11_strengthOfAll_c4 (σ : SI) (x1 : Int32) : Nat → Int32 → Int32 → Int32
  | 0, _, _ => 0
  | fu + 1, v2, v3 => if (f8_bearers 10 σ) ≤ v3 then v2 else (if (f11_hasBit x1 v3) = true then (f11_strengthOfAll_c4 σ x1 fu (v2 + (f8_strengthOf 10 σ v3)) (v3 + 1)) else (f11_strengthOfAll_c4 σ x1 fu v2 (v3 + 1)))
def f11_strengthOfAll (σ : SI) (x1 : Int32) : Int32 := (f11_strengthOfAll_c4 σ x1 ((Int32.toInt (f8_bearers 10 σ) - Int32.toInt (0 : Int32)).toNat + 1) (0 : Int32) (0 : Int32))
set_option maxHeartbeats 4000000 in
set_option maxRecDepth 100000 in
theorem c11_strengthOfAll_c4 {l : Launch} {p : Program} {e : Env} {s : State} {m : MethodId} {args : Array Value} {below : List Frame} {meth : Method} {c : Code} {G : GT} (X : CX p s m args meth c cX11_strengthOfAll RX11 4 (some .int) G) {E : Int32} (σ : SI) (τ : SL) (x1 : Int32) : ∀ (fu : Nat) (v2 : Int32) (v3 : Int32) (H : Heap) (locs : List Loc) (ls : Array Slot), IX G s H locs σ τ → lv_has ls 4 [(0, .ref (G.2.1 0)), (1, .int x1), (2, .int v2), (3, .int v3)] → (Int32.toInt (f8_bearers 10 σ) - Int32.toInt v3).toNat < fu → E = (f11_strengthOfAll_c4 σ x1 fu v2 v3) → W p l e (rmN 3) s m args below meth c H locs 0 0 (MQ below ((Qi G (Ei E σ τ)) s.heap.size) args s 0 0 (AW G s.heap.size)) (F0 m 4 ls []) := by
  intro fu
  induction fu with
  | zero =>
    intro v2 v3 H locs ls I hl  hm hE
    exact absurd hm (Nat.not_lt_zero _)
  | succ fu ih =>
    intro v2 v3 H locs ls I hl  hm hE
    refine lv_iload_n X.1 X.2.1 dX11_strengthOfAll_4 rfl (lv_at hl 3 rfl) ?_
    refine lv_aload_n X.1 X.2.1 dX11_strengthOfAll_5 rfl (lv_at hl 0 rfl) ?_
    refine g11_3 X I (k := 0) (by decide) rfl lf_X11_35 dX11_strengthOfAll_6 ?_
    refine r_ei I (r_runV X I pk_X8_bearers (c8_bearers l G (k := 10) ⟨by decide, rfl, rfl, rfl⟩ _ _) lm_X11_194 (by decide) (cl_8 rfl) rfl rfl rfl hl.1 rfl (Nat.le_of_ble_eq_true rfl) dX11_strengthOfAll_9 ⟨Nat.le_of_ble_eq_true rfl, Nat.le_of_ble_eq_true rfl⟩ ⟨Nat.le_refl 0, Nat.le_refl 0⟩) (fun H locs I => ?_)
    refine lv_icmp_ge (tgt := 40) X.1 X.2.1 dX11_strengthOfAll_12 (by decide) (fun c_1 => ?_) (fun c_1 => ?_)
    · skip
      refine lv_iload_n X.1 X.2.1 dX11_strengthOfAll_40 rfl (lv_at hl 2 rfl) ?_
      have h9 := hE.trans ((if_pos c_1).trans rfl)
      exact r_iret X I (e_i (h9).symm rfl rfl) dX11_strengthOfAll_41
    · skip
      refine lv_iload_n X.1 X.2.1 dX11_strengthOfAll_15 rfl (lv_at hl 1 rfl) ?_
      refine lv_iload_n X.1 X.2.1 dX11_strengthOfAll_16 rfl (lv_at hl 3 rfl) ?_
      refine r_ei I (r_runS X I pk_X11_hasBit (c11_hasBit l G _ _ _ _) lm_X11_353 rfl hl.1 rfl (Nat.le_of_ble_eq_true rfl) dX11_strengthOfAll_17 ⟨Nat.le_of_ble_eq_true rfl, Nat.le_of_ble_eq_true rfl⟩ ⟨Nat.le_refl 0, Nat.le_refl 0⟩) (fun H locs I => ?_)
      refine lv_if_eq (tgt := 34) X.1 X.2.1 dX11_strengthOfAll_20 (by decide) (fun c_2 => ?_) (fun c_2 => ?_)
      · skip
        refine lv_iinc (v := _ + 1) (lv' := [(3, .int _), (0, .ref _), (1, .int _), (2, .int _)]) X.1 X.2.1 dX11_strengthOfAll_34 hl (k := 3) rfl rfl (by decide) rfl (fun ls hl => ?_)
        refine lv_goto (tgt := 4) X.1 X.2.1 dX11_strengthOfAll_37 (by decide) ?_
        exact ih _ _ _ _ _ I (lv_sub hl [1, 2, 3, 0] rfl) (Nat.lt_of_lt_of_le (up_dec c_1) (Nat.le_of_lt_succ hm)) (hE.trans ((if_neg c_1).trans ((if_neg (b2i_n c_2)).trans rfl)))
      · skip
        refine lv_iload_n X.1 X.2.1 dX11_strengthOfAll_23 rfl (lv_at hl 2 rfl) ?_
        refine lv_aload_n X.1 X.2.1 dX11_strengthOfAll_24 rfl (lv_at hl 0 rfl) ?_
        refine g11_3 X I (k := 0) (by decide) rfl lf_X11_35 dX11_strengthOfAll_25 ?_
        refine lv_iload_n X.1 X.2.1 dX11_strengthOfAll_28 rfl (lv_at hl 3 rfl) ?_
        refine r_ei I (r_runV X I pk_X8_strengthOf (c8_strengthOf l G (k := 10) ⟨by decide, rfl, rfl, rfl⟩ _ _ _) lm_X11_197 (by decide) (cl_8 rfl) rfl rfl rfl hl.1 rfl (Nat.le_of_ble_eq_true rfl) dX11_strengthOfAll_29 ⟨Nat.le_of_ble_eq_true rfl, Nat.le_of_ble_eq_true rfl⟩ ⟨Nat.le_refl 0, Nat.le_refl 0⟩) (fun H locs I => ?_)
        refine lv_iadd X.1 X.2.1 dX11_strengthOfAll_32 ?_
        refine lv_istore_n (lv' := [(2, .int _), (0, .ref _), (1, .int _), (3, .int _)]) X.1 X.2.1 dX11_strengthOfAll_33 rfl hl (by decide) rfl (fun ls hl => ?_)
        refine lv_iinc (v := _ + 1) (lv' := [(3, .int _), (2, .int _), (0, .ref _), (1, .int _)]) X.1 X.2.1 dX11_strengthOfAll_34 hl (k := 3) rfl rfl (by decide) rfl (fun ls hl => ?_)
        refine lv_goto (tgt := 4) X.1 X.2.1 dX11_strengthOfAll_37 (by decide) ?_
        exact ih _ _ _ _ _ I (lv_sub hl [2, 3, 1, 0] rfl) (Nat.lt_of_lt_of_le (up_dec c_1) (Nat.le_of_lt_succ hm)) (hE.trans ((if_neg c_1).trans ((if_pos (b2i_y c_2)).trans rfl)))
set_option maxHeartbeats 4000000 in
set_option maxRecDepth 100000 in
theorem c11_strengthOfAll (l : Launch) (G : GT) (σ : SI) (τ : SL) (x1 : Int32) : Mc l yX11_strengthOfAll cX11_strengthOfAll 4 (some .int) 3 G [.ref (G.2.1 0), .int x1] σ τ (Qi G (Ei (f11_strengthOfAll σ x1) σ τ)) := by
  refine m_start (by decide +kernel) (Nat.le_of_ble_eq_true rfl) rfl (fun p e s m args below meth c ls X I hl => ?_)
  have hl : lv_has ls 4 [(0, .ref (G.2.1 0)), (1, .int x1)] := hl
  obtain ⟨E, hE⟩ : ∃ E, E = (f11_strengthOfAll σ x1) := ⟨_, rfl⟩
  rw [← hE]
  refine lv_iconst (v := 0) X.1 X.2.1 dX11_strengthOfAll_0 (by decide) ?_
  refine lv_istore_n (lv' := [(2, .int _), (0, .ref _), (1, .int _)]) X.1 X.2.1 dX11_strengthOfAll_1 rfl hl (by decide) rfl (fun ls hl => ?_)
  refine lv_iconst (v := 0) X.1 X.2.1 dX11_strengthOfAll_2 (by decide) ?_
  refine lv_istore_n (lv' := [(3, .int _), (2, .int _), (0, .ref _), (1, .int _)]) X.1 X.2.1 dX11_strengthOfAll_3 rfl hl (by decide) rfl (fun ls hl => ?_)
  exact c11_strengthOfAll_c4 X _ _ _ _ _ _ _ _ _ I (lv_sub hl [2, 3, 1, 0] rfl) (Nat.lt_succ_self _) (hE.trans (rfl))
def f11_roster_c28 (σ : SI) (x1 : Int32) : Nat → Int32 → Int32 → Int32
  | 0, _, _ => 0
  | fu + 1, v2, v3 => if ((1 : Int32) <<< ((f8_bearers 10 σ) &&& 31)) ≤ v3 then v2 else (if (f11_strengthOfAll σ v3) < x1 then (f11_roster_c28 σ x1 fu v2 (v3 + 1)) else (if v2 = (-1 : Int32) then (f11_roster_c28 σ x1 fu v3 (v3 + 1)) else (if (fbitCount v2) ≤ (fbitCount v3) then (f11_roster_c28 σ x1 fu v2 (v3 + 1)) else (f11_roster_c28 σ x1 fu v3 (v3 + 1)))))
def f11_roster (σ : SI) (x1 : Int32) : Int32 := if (f8_isTold 10 σ) = true then (if x1 < (1 : Int32) then (-1 : Int32) else (if x1 ≤ (200 : Int32) then (f11_roster_c28 σ x1 ((Int32.toInt ((1 : Int32) <<< ((f8_bearers 10 σ) &&& 31)) - Int32.toInt (1 : Int32)).toNat + 1) (-1 : Int32) (1 : Int32)) else (-1 : Int32))) else (-1 : Int32)
set_option maxHeartbeats 4000000 in
set_option maxRecDepth 100000 in
theorem c11_roster_c28 {l : Launch} {p : Program} {e : Env} {s : State} {m : MethodId} {args : Array Value} {below : List Frame} {meth : Method} {c : Code} {G : GT} (X : CX p s m args meth c cX11_roster RX11 4 (some .int) G) {E : Int32} (σ : SI) (τ : SL) (x1 : Int32) : ∀ (fu : Nat) (v2 : Int32) (v3 : Int32) (H : Heap) (locs : List Loc) (ls : Array Slot), IX G s H locs σ τ → lv_has ls 4 [(0, .ref (G.2.1 0)), (1, .int x1), (2, .int v2), (3, .int v3)] → (Int32.toInt ((1 : Int32) <<< ((f8_bearers 10 σ) &&& 31)) - Int32.toInt v3).toNat < fu → E = (f11_roster_c28 σ x1 fu v2 v3) → W p l e (rmN 4) s m args below meth c H locs 0 0 (MQ below ((Qi G (Ei E σ τ)) s.heap.size) args s 0 0 (AW G s.heap.size)) (F0 m 28 ls []) := by
  intro fu
  induction fu with
  | zero =>
    intro v2 v3 H locs ls I hl  hm hE
    exact absurd hm (Nat.not_lt_zero _)
  | succ fu ih =>
    intro v2 v3 H locs ls I hl  hm hE
    refine lv_iload_n X.1 X.2.1 dX11_roster_28 rfl (lv_at hl 3 rfl) ?_
    refine lv_iconst (v := 1) X.1 X.2.1 dX11_roster_29 (by decide) ?_
    refine lv_aload_n X.1 X.2.1 dX11_roster_30 rfl (lv_at hl 0 rfl) ?_
    refine g11_3 X I (k := 0) (by decide) rfl lf_X11_35 dX11_roster_31 ?_
    refine r_ei I (r_runV X I pk_X8_bearers (c8_bearers l G (k := 10) ⟨by decide, rfl, rfl, rfl⟩ _ _) lm_X11_194 (by decide) (cl_8 rfl) rfl rfl rfl hl.1 rfl (Nat.le_of_ble_eq_true rfl) dX11_roster_34 ⟨Nat.le_of_ble_eq_true rfl, Nat.le_of_ble_eq_true rfl⟩ ⟨Nat.le_refl 0, Nat.le_refl 0⟩) (fun H locs I => ?_)
    refine lv_ishl X.1 X.2.1 dX11_roster_37 ?_
    refine lv_icmp_ge (tgt := 74) X.1 X.2.1 dX11_roster_38 (by decide) (fun c_4 => ?_) (fun c_4 => ?_)
    · skip
      refine lv_iload_n X.1 X.2.1 dX11_roster_74 rfl (lv_at hl 2 rfl) ?_
      have h9 := hE.trans ((if_pos c_4).trans rfl)
      exact r_iret X I (e_i (h9).symm rfl rfl) dX11_roster_75
    · skip
      refine lv_aload_n X.1 X.2.1 dX11_roster_41 rfl (lv_at hl 0 rfl) ?_
      refine lv_iload_n X.1 X.2.1 dX11_roster_42 rfl (lv_at hl 3 rfl) ?_
      refine r_ei I (r_runV X I pk_X11_strengthOfAll (c11_strengthOfAll l G _ _ _) lm_X11_345 (by decide) (cl_11 rfl) rfl rfl rfl hl.1 rfl (Nat.le_of_ble_eq_true rfl) dX11_roster_43 ⟨Nat.le_of_ble_eq_true rfl, Nat.le_of_ble_eq_true rfl⟩ ⟨Nat.le_refl 0, Nat.le_refl 0⟩) (fun H locs I => ?_)
      refine lv_iload_n X.1 X.2.1 dX11_roster_46 rfl (lv_at hl 1 rfl) ?_
      refine lv_icmp_lt (tgt := 68) X.1 X.2.1 dX11_roster_47 (by decide) (fun c_5 => ?_) (fun c_5 => ?_)
      · skip
        refine lv_iinc (v := _ + 1) (lv' := [(3, .int _), (0, .ref _), (1, .int _), (2, .int _)]) X.1 X.2.1 dX11_roster_68 hl (k := 3) rfl rfl (by decide) rfl (fun ls hl => ?_)
        refine lv_goto (tgt := 28) X.1 X.2.1 dX11_roster_71 (by decide) ?_
        exact ih _ _ _ _ _ I (lv_sub hl [1, 2, 3, 0] rfl) (Nat.lt_of_lt_of_le (up_dec c_4) (Nat.le_of_lt_succ hm)) (hE.trans ((if_neg c_4).trans ((if_pos c_5).trans rfl)))
      · skip
        refine lv_iload_n X.1 X.2.1 dX11_roster_50 rfl (lv_at hl 2 rfl) ?_
        refine lv_iconst (v := (-1)) X.1 X.2.1 dX11_roster_51 (by decide) ?_
        refine lv_icmp_eq (tgt := 66) X.1 X.2.1 dX11_roster_52 (by decide) (fun c_6 => ?_) (fun c_6 => ?_)
        · skip
          refine lv_iload_n X.1 X.2.1 dX11_roster_66 rfl (lv_at hl 3 rfl) ?_
          refine lv_istore_n (lv' := [(2, .int _), (0, .ref _), (1, .int _), (3, .int _)]) X.1 X.2.1 dX11_roster_67 rfl hl (by decide) rfl (fun ls hl => ?_)
          refine lv_iinc (v := _ + 1) (lv' := [(3, .int _), (2, .int _), (0, .ref _), (1, .int _)]) X.1 X.2.1 dX11_roster_68 hl (k := 3) rfl rfl (by decide) rfl (fun ls hl => ?_)
          refine lv_goto (tgt := 28) X.1 X.2.1 dX11_roster_71 (by decide) ?_
          exact ih _ _ _ _ _ I (lv_sub hl [2, 3, 1, 0] rfl) (Nat.lt_of_lt_of_le (up_dec c_4) (Nat.le_of_lt_succ hm)) (hE.trans ((if_neg c_4).trans ((if_neg c_5).trans ((if_pos c_6).trans rfl))))
        · skip
          refine lv_iload_n X.1 X.2.1 dX11_roster_55 rfl (lv_at hl 3 rfl) ?_
          refine r_ei I (r_runS X I pk_J6_bitCount_0f7a4 (cbitCount l G _ _ _) lm_X11_348 rfl hl.1 rfl (Nat.le_of_ble_eq_true rfl) dX11_roster_56 ⟨Nat.le_of_ble_eq_true rfl, Nat.le_of_ble_eq_true rfl⟩ ⟨Nat.le_refl 0, Nat.le_refl 0⟩) (fun H locs I => ?_)
          refine lv_iload_n X.1 X.2.1 dX11_roster_59 rfl (lv_at hl 2 rfl) ?_
          refine r_ei I (r_runS X I pk_J6_bitCount_0f7a4 (cbitCount l G _ _ _) lm_X11_348 rfl hl.1 rfl (Nat.le_of_ble_eq_true rfl) dX11_roster_60 ⟨Nat.le_of_ble_eq_true rfl, Nat.le_of_ble_eq_true rfl⟩ ⟨Nat.le_refl 0, Nat.le_refl 0⟩) (fun H locs I => ?_)
          refine lv_icmp_ge (tgt := 68) X.1 X.2.1 dX11_roster_63 (by decide) (fun c_7 => ?_) (fun c_7 => ?_)
          · skip
            refine lv_iinc (v := _ + 1) (lv' := [(3, .int _), (0, .ref _), (1, .int _), (2, .int _)]) X.1 X.2.1 dX11_roster_68 hl (k := 3) rfl rfl (by decide) rfl (fun ls hl => ?_)
            refine lv_goto (tgt := 28) X.1 X.2.1 dX11_roster_71 (by decide) ?_
            exact ih _ _ _ _ _ I (lv_sub hl [1, 2, 3, 0] rfl) (Nat.lt_of_lt_of_le (up_dec c_4) (Nat.le_of_lt_succ hm)) (hE.trans ((if_neg c_4).trans ((if_neg c_5).trans ((if_neg c_6).trans ((if_pos c_7).trans rfl)))))
          · skip
            refine lv_iload_n X.1 X.2.1 dX11_roster_66 rfl (lv_at hl 3 rfl) ?_
            refine lv_istore_n (lv' := [(2, .int _), (0, .ref _), (1, .int _), (3, .int _)]) X.1 X.2.1 dX11_roster_67 rfl hl (by decide) rfl (fun ls hl => ?_)
            refine lv_iinc (v := _ + 1) (lv' := [(3, .int _), (2, .int _), (0, .ref _), (1, .int _)]) X.1 X.2.1 dX11_roster_68 hl (k := 3) rfl rfl (by decide) rfl (fun ls hl => ?_)
            refine lv_goto (tgt := 28) X.1 X.2.1 dX11_roster_71 (by decide) ?_
            exact ih _ _ _ _ _ I (lv_sub hl [2, 3, 1, 0] rfl) (Nat.lt_of_lt_of_le (up_dec c_4) (Nat.le_of_lt_succ hm)) (hE.trans ((if_neg c_4).trans ((if_neg c_5).trans ((if_neg c_6).trans ((if_neg c_7).trans rfl)))))
set_option maxHeartbeats 4000000 in
set_option maxRecDepth 100000 in
theorem c11_roster (l : Launch) (G : GT) (σ : SI) (τ : SL) (x1 : Int32) : Mc l yX11_roster cX11_roster 4 (some .int) 4 G [.ref (G.2.1 0), .int x1] σ τ (Qi G (Ei (f11_roster σ x1) σ τ)) := by
  refine m_start (by decide +kernel) (Nat.le_of_ble_eq_true rfl) rfl (fun p e s m args below meth c ls X I hl => ?_)
  have hl : lv_has ls 4 [(0, .ref (G.2.1 0)), (1, .int x1)] := hl
  obtain ⟨E, hE⟩ : ∃ E, E = (f11_roster σ x1) := ⟨_, rfl⟩
  rw [← hE]
  refine lv_aload_n X.1 X.2.1 dX11_roster_0 rfl (lv_at hl 0 rfl) ?_
  refine g11_3 X I (k := 0) (by decide) rfl lf_X11_35 dX11_roster_1 ?_
  refine r_ei I (r_runV X I pk_X8_isTold (c8_isTold l G (k := 10) ⟨by decide, rfl, rfl, rfl⟩ _ _) lm_X11_158 (by decide) (cl_8 rfl) rfl rfl rfl hl.1 rfl (Nat.le_of_ble_eq_true rfl) dX11_roster_4 ⟨Nat.le_of_ble_eq_true rfl, Nat.le_of_ble_eq_true rfl⟩ ⟨Nat.le_refl 0, Nat.le_refl 0⟩) (fun H locs I => ?_)
  refine lv_if_eq (tgt := 22) X.1 X.2.1 dX11_roster_7 (by decide) (fun c_1 => ?_) (fun c_1 => ?_)
  · skip
    refine lv_iconst (v := (-1)) X.1 X.2.1 dX11_roster_22 (by decide) ?_
    have h9 := hE.trans ((if_neg (b2i_n c_1)).trans rfl)
    exact r_iret X I (e_i (h9).symm rfl rfl) dX11_roster_23
  · skip
    refine lv_iload_n X.1 X.2.1 dX11_roster_10 rfl (lv_at hl 1 rfl) ?_
    refine lv_iconst (v := 1) X.1 X.2.1 dX11_roster_11 (by decide) ?_
    refine lv_icmp_lt (tgt := 22) X.1 X.2.1 dX11_roster_12 (by decide) (fun c_2 => ?_) (fun c_2 => ?_)
    · skip
      refine lv_iconst (v := (-1)) X.1 X.2.1 dX11_roster_22 (by decide) ?_
      have h9 := hE.trans ((if_pos (b2i_y c_1)).trans ((if_pos c_2).trans rfl))
      exact r_iret X I (e_i (h9).symm rfl rfl) dX11_roster_23
    · skip
      refine lv_iload_n X.1 X.2.1 dX11_roster_15 rfl (lv_at hl 1 rfl) ?_
      refine lv_sipush (v := 200) X.1 X.2.1 dX11_roster_16 (by decide) ?_
      refine lv_icmp_le (tgt := 24) X.1 X.2.1 dX11_roster_19 (by decide) (fun c_3 => ?_) (fun c_3 => ?_)
      · skip
        refine lv_iconst (v := (-1)) X.1 X.2.1 dX11_roster_24 (by decide) ?_
        refine lv_istore_n (lv' := [(2, .int _), (0, .ref _), (1, .int _)]) X.1 X.2.1 dX11_roster_25 rfl hl (by decide) rfl (fun ls hl => ?_)
        refine lv_iconst (v := 1) X.1 X.2.1 dX11_roster_26 (by decide) ?_
        refine lv_istore_n (lv' := [(3, .int _), (2, .int _), (0, .ref _), (1, .int _)]) X.1 X.2.1 dX11_roster_27 rfl hl (by decide) rfl (fun ls hl => ?_)
        exact c11_roster_c28 X _ _ _ _ _ _ _ _ _ I (lv_sub hl [2, 3, 1, 0] rfl) (Nat.lt_succ_self _) (hE.trans ((if_pos (b2i_y c_1)).trans ((if_neg c_2).trans ((if_pos c_3).trans rfl))))
      · skip
        refine lv_iconst (v := (-1)) X.1 X.2.1 dX11_roster_22 (by decide) ?_
        have h9 := hE.trans ((if_pos (b2i_y c_1)).trans ((if_neg c_2).trans ((if_neg c_3).trans rfl)))
        exact r_iret X I (e_i (h9).symm rfl rfl) dX11_roster_23
def f11_stood (σ : SI) (x1 : Int32) (x2 : Int32) (x3 : Int32) : Int32 × SI := if (f8_isHouse 10 σ x1) = true then (if x2 < (0 : Int32) then ((-1 : Int32), σ) else (if (99 : Int32) < x2 then ((-1 : Int32), σ) else (if x3 < (0 : Int32) then ((-1 : Int32), σ) else (if x3 ≤ (60 : Int32) then (let r0 := (f10_tellStood σ x1 x2 x3); (r0.1, r0.2)) else ((-1 : Int32), σ))))) else ((-1 : Int32), σ)
theorem w_f11_stood (σ : SI) (x1 : Int32) (x2 : Int32) (x3 : Int32) (a : Nat) (h0 : a ≠ 33) (h1 : a ≠ 34) : (f11_stood σ x1 x2 x3).2 a = σ a := by
  unfold f11_stood
  (repeat' split) <;> (first | rfl | (simp only [sp_n, su_n, ne_eq, not_false_eq_true, h0, h1, w_f10_tellStood]; done) | (simp [sp_n, su_n, ne_eq, not_false_eq_true, h0, h1, w_f10_tellStood]; done))
set_option maxHeartbeats 4000000 in
set_option maxRecDepth 100000 in
theorem c11_stood (l : Launch) (G : GT) (σ : SI) (τ : SL) (x1 : Int32) (x2 : Int32) (x3 : Int32) : Mc l yX11_stood cX11_stood 4 (some .int) 3 G [.ref (G.2.1 0), .int x1, .int x2, .int x3] σ τ (Qi G (Ei (f11_stood σ x1 x2 x3).1 (f11_stood σ x1 x2 x3).2 τ)) := by
  refine m_start (by decide +kernel) (Nat.le_of_ble_eq_true rfl) rfl (fun p e s m args below meth c ls X I hl => ?_)
  have hl : lv_has ls 4 [(0, .ref (G.2.1 0)), (1, .int x1), (2, .int x2), (3, .int x3)] := hl
  obtain ⟨E, hE⟩ : ∃ E, E = (f11_stood σ x1 x2 x3) := ⟨_, rfl⟩
  rw [← hE]
  refine lv_aload_n X.1 X.2.1 dX11_stood_0 rfl (lv_at hl 0 rfl) ?_
  refine g11_3 X I (k := 0) (by decide) rfl lf_X11_35 dX11_stood_1 ?_
  refine lv_iload_n X.1 X.2.1 dX11_stood_4 rfl (lv_at hl 1 rfl) ?_
  refine r_ei I (r_runV X I pk_X8_isHouse (c8_isHouse l G (k := 10) ⟨by decide, rfl, rfl, rfl⟩ _ _ _) lm_X11_173 (by decide) (cl_8 rfl) rfl rfl rfl hl.1 rfl (Nat.le_of_ble_eq_true rfl) dX11_stood_5 ⟨Nat.le_of_ble_eq_true rfl, Nat.le_of_ble_eq_true rfl⟩ ⟨Nat.le_refl 0, Nat.le_refl 0⟩) (fun H locs I => ?_)
  refine lv_if_eq (tgt := 31) X.1 X.2.1 dX11_stood_8 (by decide) (fun c_1 => ?_) (fun c_1 => ?_)
  · skip
    refine lv_iconst (v := (-1)) X.1 X.2.1 dX11_stood_31 (by decide) ?_
    have h9 := hE.trans ((if_neg (b2i_n c_1)).trans rfl)
    exact r_iret X I (e_i (congrArg Prod.fst h9).symm (congrArg Prod.snd h9).symm rfl) dX11_stood_32
  · skip
    refine lv_iload_n X.1 X.2.1 dX11_stood_11 rfl (lv_at hl 2 rfl) ?_
    refine lv_if_lt (tgt := 31) X.1 X.2.1 dX11_stood_12 (by decide) (fun c_2 => ?_) (fun c_2 => ?_)
    · skip
      refine lv_iconst (v := (-1)) X.1 X.2.1 dX11_stood_31 (by decide) ?_
      have h9 := hE.trans ((if_pos (b2i_y c_1)).trans ((if_pos c_2).trans rfl))
      exact r_iret X I (e_i (congrArg Prod.fst h9).symm (congrArg Prod.snd h9).symm rfl) dX11_stood_32
    · skip
      refine lv_iload_n X.1 X.2.1 dX11_stood_15 rfl (lv_at hl 2 rfl) ?_
      refine lv_bipush (v := 99) X.1 X.2.1 dX11_stood_16 (by decide) ?_
      refine lv_icmp_gt (tgt := 31) X.1 X.2.1 dX11_stood_18 (by decide) (fun c_3 => ?_) (fun c_3 => ?_)
      · skip
        refine lv_iconst (v := (-1)) X.1 X.2.1 dX11_stood_31 (by decide) ?_
        have h9 := hE.trans ((if_pos (b2i_y c_1)).trans ((if_neg c_2).trans ((if_pos c_3).trans rfl)))
        exact r_iret X I (e_i (congrArg Prod.fst h9).symm (congrArg Prod.snd h9).symm rfl) dX11_stood_32
      · skip
        refine lv_iload_n X.1 X.2.1 dX11_stood_21 rfl (lv_at hl 3 rfl) ?_
        refine lv_if_lt (tgt := 31) X.1 X.2.1 dX11_stood_22 (by decide) (fun c_4 => ?_) (fun c_4 => ?_)
        · skip
          refine lv_iconst (v := (-1)) X.1 X.2.1 dX11_stood_31 (by decide) ?_
          have h9 := hE.trans ((if_pos (b2i_y c_1)).trans ((if_neg c_2).trans ((if_neg c_3).trans ((if_pos c_4).trans rfl))))
          exact r_iret X I (e_i (congrArg Prod.fst h9).symm (congrArg Prod.snd h9).symm rfl) dX11_stood_32
        · skip
          refine lv_iload_n X.1 X.2.1 dX11_stood_25 rfl (lv_at hl 3 rfl) ?_
          refine lv_bipush (v := 60) X.1 X.2.1 dX11_stood_26 (by decide) ?_
          refine lv_icmp_le (tgt := 33) X.1 X.2.1 dX11_stood_28 (by decide) (fun c_5 => ?_) (fun c_5 => ?_)
          · skip
            refine lv_aload_n X.1 X.2.1 dX11_stood_33 rfl (lv_at hl 0 rfl) ?_
            refine g11_8 X I (k := 0) (by decide) rfl lf_X11_72 dX11_stood_34 ?_
            refine lv_iload_n X.1 X.2.1 dX11_stood_37 rfl (lv_at hl 1 rfl) ?_
            refine lv_iload_n X.1 X.2.1 dX11_stood_38 rfl (lv_at hl 2 rfl) ?_
            refine lv_iload_n X.1 X.2.1 dX11_stood_39 rfl (lv_at hl 3 rfl) ?_
            refine r_ei I (r_runV X I pk_X10_tellStood (c10_tellStood l G _ _ _ _ _) lm_X11_357 (by decide) (cl_10 rfl) rfl rfl rfl hl.1 rfl (Nat.le_of_ble_eq_true rfl) dX11_stood_40 ⟨Nat.le_of_ble_eq_true rfl, Nat.le_of_ble_eq_true rfl⟩ ⟨Nat.le_refl 0, Nat.le_refl 0⟩) (fun H locs I => ?_)
            have h9 := hE.trans ((if_pos (b2i_y c_1)).trans ((if_neg c_2).trans ((if_neg c_3).trans ((if_neg c_4).trans ((if_pos c_5).trans rfl)))))
            exact r_iret X I (e_i (congrArg Prod.fst h9).symm (congrArg Prod.snd h9).symm rfl) dX11_stood_43
          · skip
            refine lv_iconst (v := (-1)) X.1 X.2.1 dX11_stood_31 (by decide) ?_
            have h9 := hE.trans ((if_pos (b2i_y c_1)).trans ((if_neg c_2).trans ((if_neg c_3).trans ((if_neg c_4).trans ((if_neg c_5).trans rfl)))))
            exact r_iret X I (e_i (congrArg Prod.fst h9).symm (congrArg Prod.snd h9).symm rfl) dX11_stood_32
def f11_standsFirst (σ : SI) (x1 : Int32) (x2 : Int32) (x3 : Int32) : Int32 × SI := let r0 := (f2_standing σ x2 (f8_isThankful 10 σ x1) x3 (0 : Int32) (f8_distance 10 σ (-1 : Int32) x1) (σ 24 6)); (r0.1, r0.2)
theorem w_f11_standsFirst (σ : SI) (x1 : Int32) (x2 : Int32) (x3 : Int32) (a : Nat) (h0 : a ≠ 13) (h1 : a ≠ 15) : (f11_standsFirst σ x1 x2 x3).2 a = σ a := by
  unfold f11_standsFirst
  (repeat' split) <;> (first | rfl | (simp only [sp_n, su_n, ne_eq, not_false_eq_true, h0, h1, w_f2_standing]; done) | (simp [sp_n, su_n, ne_eq, not_false_eq_true, h0, h1, w_f2_standing]; done))
set_option maxHeartbeats 4000000 in
set_option maxRecDepth 100000 in
theorem c11_standsFirst (l : Launch) (G : GT) (σ : SI) (τ : SL) (x1 : Int32) (x2 : Int32) (x3 : Int32) : Mc l yX11_standsFirst cX11_standsFirst 4 (some .int) 6 G [.ref (G.2.1 0), .int x1, .int x2, .int x3] σ τ (Qi G (Ei (f11_standsFirst σ x1 x2 x3).1 (f11_standsFirst σ x1 x2 x3).2 τ)) := by
  refine m_start (by decide +kernel) (Nat.le_of_ble_eq_true rfl) rfl (fun p e s m args below meth c ls X I hl => ?_)
  have hl : lv_has ls 4 [(0, .ref (G.2.1 0)), (1, .int x1), (2, .int x2), (3, .int x3)] := hl
  obtain ⟨E, hE⟩ : ∃ E, E = (f11_standsFirst σ x1 x2 x3) := ⟨_, rfl⟩
  rw [← hE]
  refine lv_aload_n X.1 X.2.1 dX11_standsFirst_0 rfl (lv_at hl 0 rfl) ?_
  refine g11_4 X I (k := 0) (by decide) rfl lf_X11_42 dX11_standsFirst_1 ?_
  refine lv_iload_n X.1 X.2.1 dX11_standsFirst_4 rfl (lv_at hl 2 rfl) ?_
  refine lv_aload_n X.1 X.2.1 dX11_standsFirst_5 rfl (lv_at hl 0 rfl) ?_
  refine g11_3 X I (k := 0) (by decide) rfl lf_X11_35 dX11_standsFirst_6 ?_
  refine lv_iload_n X.1 X.2.1 dX11_standsFirst_9 rfl (lv_at hl 1 rfl) ?_
  refine r_ei I (r_runV X I pk_X8_isThankful (c8_isThankful l G (k := 10) ⟨by decide, rfl, rfl, rfl⟩ _ _ _) lm_X11_188 (by decide) (cl_8 rfl) rfl rfl rfl hl.1 rfl (Nat.le_of_ble_eq_true rfl) dX11_standsFirst_10 ⟨Nat.le_of_ble_eq_true rfl, Nat.le_of_ble_eq_true rfl⟩ ⟨Nat.le_refl 0, Nat.le_refl 0⟩) (fun H locs I => ?_)
  refine lv_iload_n X.1 X.2.1 dX11_standsFirst_13 rfl (lv_at hl 3 rfl) ?_
  refine lv_iconst (v := 0) X.1 X.2.1 dX11_standsFirst_14 (by decide) ?_
  refine lv_aload_n X.1 X.2.1 dX11_standsFirst_15 rfl (lv_at hl 0 rfl) ?_
  refine g11_3 X I (k := 0) (by decide) rfl lf_X11_35 dX11_standsFirst_16 ?_
  refine lv_iconst (v := (-1)) X.1 X.2.1 dX11_standsFirst_19 (by decide) ?_
  refine lv_iload_n X.1 X.2.1 dX11_standsFirst_20 rfl (lv_at hl 1 rfl) ?_
  refine r_ei I (r_runV X I pk_X8_distance (c8_distance l G (k := 10) ⟨by decide, rfl, rfl, rfl⟩ _ _ _ _) lm_X11_206 (by decide) (cl_8 rfl) rfl rfl rfl hl.1 rfl (Nat.le_of_ble_eq_true rfl) dX11_standsFirst_21 ⟨Nat.le_of_ble_eq_true rfl, Nat.le_of_ble_eq_true rfl⟩ ⟨Nat.le_refl 0, Nat.le_refl 0⟩) (fun H locs I => ?_)
  refine lv_aload_n X.1 X.2.1 dX11_standsFirst_24 rfl (lv_at hl 0 rfl) ?_
  refine g11_5 X I (k := 0) (by decide) rfl lf_X11_49 dX11_standsFirst_25 ?_
  refine g0_6 X I (k := 24) (by decide) rfl lf_X11_222 dX11_standsFirst_28 ?_
  refine r_ei I (r_runV X I pk_X2_standing (c2_standing l G _ _ _ _ _ _ _ _) lm_X11_225 (by decide) (cl_2 rfl) rfl rfl rfl hl.1 rfl (Nat.le_of_ble_eq_true rfl) dX11_standsFirst_31 ⟨Nat.le_of_ble_eq_true rfl, Nat.le_of_ble_eq_true rfl⟩ ⟨Nat.le_refl 0, Nat.le_refl 0⟩) (fun H locs I => ?_)
  have h9 := hE
  exact r_iret X I (e_i (congrArg Prod.fst h9).symm (congrArg Prod.snd h9).symm rfl) dX11_standsFirst_34
def f11_isFitting_c2 (x1 : Int32) (x2 : Int32) : Nat → Int32 → SI → (Bool × SI)
  | 0, _, σ => (false, σ)
  | fu + 1, v3, σ => if (f10_stoods σ) ≤ v3 then (true, σ) else (if (f10_stoodHouse σ v3) = x1 then (let r0 := (f11_standsFirst σ x1 x2 (f10_stoodTime σ v3)); if r0.1 = (f10_stoodLong r0.2 v3) then (f11_isFitting_c2 x1 x2 fu (v3 + 1) r0.2) else (false, r0.2)) else (f11_isFitting_c2 x1 x2 fu (v3 + 1) σ))
def f11_isFitting (σ : SI) (x1 : Int32) (x2 : Int32) : Bool × SI := (f11_isFitting_c2 x1 x2 ((Int32.toInt (f10_stoods σ) - Int32.toInt (0 : Int32)).toNat + 1) (0 : Int32) σ)
theorem w_f11_isFitting_c2 (x1 : Int32) (x2 : Int32) (a : Nat) (h0 : a ≠ 13) (h1 : a ≠ 15) : ∀ (fu : Nat) (v3 : Int32) (σ : SI), (f11_isFitting_c2 x1 x2 fu v3 σ).2 a = σ a := by
  intro fu
  induction fu with
  | zero => intros; rfl
  | succ fu ih =>
    intro v3 σ
    unfold f11_isFitting_c2
    (repeat' split) <;> (first | rfl | (simp only [sp_n, su_n, ne_eq, not_false_eq_true, h0, h1, w_f11_standsFirst, ih]; done) | (simp [sp_n, su_n, ne_eq, not_false_eq_true, h0, h1, w_f11_standsFirst, ih]; done))
theorem w_f11_isFitting (σ : SI) (x1 : Int32) (x2 : Int32) (a : Nat) (h0 : a ≠ 13) (h1 : a ≠ 15) : (f11_isFitting σ x1 x2).2 a = σ a := by
  unfold f11_isFitting
  (repeat' split) <;> (first | rfl | (simp only [sp_n, su_n, ne_eq, not_false_eq_true, h0, h1, w_f11_standsFirst, w_f11_isFitting_c2]; done) | (simp [sp_n, su_n, ne_eq, not_false_eq_true, h0, h1, w_f11_standsFirst, w_f11_isFitting_c2]; done))
set_option maxHeartbeats 4000000 in
set_option maxRecDepth 100000 in
theorem c11_isFitting_c2 {l : Launch} {p : Program} {e : Env} {s : State} {m : MethodId} {args : Array Value} {below : List Frame} {meth : Method} {c : Code} {G : GT} (X : CX p s m args meth c cX11_isFitting RX11 4 (some .boolean) G) {E : Bool × SI} (τ : SL) (x1 : Int32) (x2 : Int32) : ∀ (fu : Nat) (v3 : Int32) (σ : SI) (H : Heap) (locs : List Loc) (ls : Array Slot), IX G s H locs σ τ → lv_has ls 4 [(0, .ref (G.2.1 0)), (1, .int x1), (2, .int x2), (3, .int v3)] → (Int32.toInt (f10_stoods σ) - Int32.toInt v3).toNat < fu → E = (f11_isFitting_c2 x1 x2 fu v3 σ) → W p l e (rmN 7) s m args below meth c H locs 0 0 (MQ below ((Qi G (Ei (b2i E.1) E.2 τ)) s.heap.size) args s 0 0 (AW G s.heap.size)) (F0 m 2 ls []) := by
  intro fu
  induction fu with
  | zero =>
    intro v3 σ H locs ls I hl  hm hE
    exact absurd hm (Nat.not_lt_zero _)
  | succ fu ih =>
    intro v3 σ H locs ls I hl  hm hE
    refine lv_iload_n X.1 X.2.1 dX11_isFitting_2 rfl (lv_at hl 3 rfl) ?_
    refine lv_aload_n X.1 X.2.1 dX11_isFitting_3 rfl (lv_at hl 0 rfl) ?_
    refine g11_8 X I (k := 0) (by decide) rfl lf_X11_72 dX11_isFitting_4 ?_
    refine r_ei I (r_runV X I pk_X10_stoods (c10_stoods l G _ _) lm_X11_364 (by decide) (cl_10 rfl) rfl rfl rfl hl.1 rfl (Nat.le_of_ble_eq_true rfl) dX11_isFitting_7 ⟨Nat.le_of_ble_eq_true rfl, Nat.le_of_ble_eq_true rfl⟩ ⟨Nat.le_refl 0, Nat.le_refl 0⟩) (fun H locs I => ?_)
    refine lv_icmp_ge (tgt := 58) X.1 X.2.1 dX11_isFitting_10 (by decide) (fun c_1 => ?_) (fun c_1 => ?_)
    · skip
      refine lv_iconst (v := 1) X.1 X.2.1 dX11_isFitting_58 (by decide) ?_
      have h9 := hE.trans ((if_pos c_1).trans rfl)
      exact r_zret X I rfl (e_i (congrArg b2i (congrArg Prod.fst h9)).symm (congrArg Prod.snd h9).symm rfl) dX11_isFitting_59
    · skip
      refine lv_aload_n X.1 X.2.1 dX11_isFitting_13 rfl (lv_at hl 0 rfl) ?_
      refine g11_8 X I (k := 0) (by decide) rfl lf_X11_72 dX11_isFitting_14 ?_
      refine lv_iload_n X.1 X.2.1 dX11_isFitting_17 rfl (lv_at hl 3 rfl) ?_
      refine r_ei I (r_runV X I pk_X10_stoodHouse (c10_stoodHouse l G _ _ _) lm_X11_367 (by decide) (cl_10 rfl) rfl rfl rfl hl.1 rfl (Nat.le_of_ble_eq_true rfl) dX11_isFitting_18 ⟨Nat.le_of_ble_eq_true rfl, Nat.le_of_ble_eq_true rfl⟩ ⟨Nat.le_refl 0, Nat.le_refl 0⟩) (fun H locs I => ?_)
      refine lv_iload_n X.1 X.2.1 dX11_isFitting_21 rfl (lv_at hl 1 rfl) ?_
      refine lv_icmp_ne (tgt := 52) X.1 X.2.1 dX11_isFitting_22 (by decide) (fun c_2 => ?_) (fun c_2 => ?_)
      · skip
        refine lv_iinc (v := _ + 1) (lv' := [(3, .int _), (0, .ref _), (1, .int _), (2, .int _)]) X.1 X.2.1 dX11_isFitting_52 hl (k := 3) rfl rfl (by decide) rfl (fun ls hl => ?_)
        refine lv_goto (tgt := 2) X.1 X.2.1 dX11_isFitting_55 (by decide) ?_
        exact ih _ _ _ _ _ I (lv_sub hl [1, 2, 3, 0] rfl) (Nat.lt_of_lt_of_le (dec_c (by first | rfl | simp [f10_stoods, w_f11_standsFirst, sp_n]) (up_dec c_1)) (Nat.le_of_lt_succ hm)) (hE.trans ((if_neg c_1).trans ((if_neg c_2).trans rfl)))
      · skip
        refine lv_aload_n X.1 X.2.1 dX11_isFitting_25 rfl (lv_at hl 0 rfl) ?_
        refine lv_iload_n X.1 X.2.1 dX11_isFitting_26 rfl (lv_at hl 1 rfl) ?_
        refine lv_iload_n X.1 X.2.1 dX11_isFitting_27 rfl (lv_at hl 2 rfl) ?_
        refine lv_aload_n X.1 X.2.1 dX11_isFitting_28 rfl (lv_at hl 0 rfl) ?_
        refine g11_8 X I (k := 0) (by decide) rfl lf_X11_72 dX11_isFitting_29 ?_
        refine lv_iload_n X.1 X.2.1 dX11_isFitting_32 rfl (lv_at hl 3 rfl) ?_
        refine r_ei I (r_runV X I pk_X10_stoodTime (c10_stoodTime l G _ _ _) lm_X11_370 (by decide) (cl_10 rfl) rfl rfl rfl hl.1 rfl (Nat.le_of_ble_eq_true rfl) dX11_isFitting_33 ⟨Nat.le_of_ble_eq_true rfl, Nat.le_of_ble_eq_true rfl⟩ ⟨Nat.le_refl 0, Nat.le_refl 0⟩) (fun H locs I => ?_)
        refine r_ei I (r_runV X I pk_X11_standsFirst (c11_standsFirst l G _ _ _ _ _) lm_X11_373 (by decide) (cl_11 rfl) rfl rfl rfl hl.1 rfl (Nat.le_of_ble_eq_true rfl) dX11_isFitting_36 ⟨Nat.le_of_ble_eq_true rfl, Nat.le_of_ble_eq_true rfl⟩ ⟨Nat.le_refl 0, Nat.le_refl 0⟩) (fun H locs I => ?_)
        refine lv_aload_n X.1 X.2.1 dX11_isFitting_39 rfl (lv_at hl 0 rfl) ?_
        refine g11_8 X I (k := 0) (by decide) rfl lf_X11_72 dX11_isFitting_40 ?_
        refine lv_iload_n X.1 X.2.1 dX11_isFitting_43 rfl (lv_at hl 3 rfl) ?_
        refine r_ei I (r_runV X I pk_X10_stoodLong (c10_stoodLong l G _ _ _) lm_X11_376 (by decide) (cl_10 rfl) rfl rfl rfl hl.1 rfl (Nat.le_of_ble_eq_true rfl) dX11_isFitting_44 ⟨Nat.le_of_ble_eq_true rfl, Nat.le_of_ble_eq_true rfl⟩ ⟨Nat.le_refl 0, Nat.le_refl 0⟩) (fun H locs I => ?_)
        refine lv_icmp_eq (tgt := 52) X.1 X.2.1 dX11_isFitting_47 (by decide) (fun c_3 => ?_) (fun c_3 => ?_)
        · skip
          refine lv_iinc (v := _ + 1) (lv' := [(3, .int _), (0, .ref _), (1, .int _), (2, .int _)]) X.1 X.2.1 dX11_isFitting_52 hl (k := 3) rfl rfl (by decide) rfl (fun ls hl => ?_)
          refine lv_goto (tgt := 2) X.1 X.2.1 dX11_isFitting_55 (by decide) ?_
          exact ih _ _ _ _ _ I (lv_sub hl [1, 2, 3, 0] rfl) (Nat.lt_of_lt_of_le (dec_c (by first | rfl | simp [f10_stoods, w_f11_standsFirst, sp_n]) (up_dec c_1)) (Nat.le_of_lt_succ hm)) (hE.trans ((if_neg c_1).trans ((if_pos c_2).trans ((if_pos c_3).trans rfl))))
        · skip
          refine lv_iconst (v := 0) X.1 X.2.1 dX11_isFitting_50 (by decide) ?_
          have h9 := hE.trans ((if_neg c_1).trans ((if_pos c_2).trans ((if_neg c_3).trans rfl)))
          exact r_zret X I rfl (e_i (congrArg b2i (congrArg Prod.fst h9)).symm (congrArg Prod.snd h9).symm rfl) dX11_isFitting_51
set_option maxHeartbeats 4000000 in
set_option maxRecDepth 100000 in
theorem c11_isFitting (l : Launch) (G : GT) (σ : SI) (τ : SL) (x1 : Int32) (x2 : Int32) : Mc l yX11_isFitting cX11_isFitting 4 (some .boolean) 7 G [.ref (G.2.1 0), .int x1, .int x2] σ τ (Qi G (Ei (b2i (f11_isFitting σ x1 x2).1) (f11_isFitting σ x1 x2).2 τ)) := by
  refine m_start (by decide +kernel) (Nat.le_of_ble_eq_true rfl) rfl (fun p e s m args below meth c ls X I hl => ?_)
  have hl : lv_has ls 4 [(0, .ref (G.2.1 0)), (1, .int x1), (2, .int x2)] := hl
  obtain ⟨E, hE⟩ : ∃ E, E = (f11_isFitting σ x1 x2) := ⟨_, rfl⟩
  rw [← hE]
  refine lv_iconst (v := 0) X.1 X.2.1 dX11_isFitting_0 (by decide) ?_
  refine lv_istore_n (lv' := [(3, .int _), (0, .ref _), (1, .int _), (2, .int _)]) X.1 X.2.1 dX11_isFitting_1 rfl hl (by decide) rfl (fun ls hl => ?_)
  exact c11_isFitting_c2 X _ _ _ _ _ _ _ _ _ I (lv_sub hl [1, 2, 3, 0] rfl) (Nat.lt_succ_self _) (hE.trans (rfl))
def f11_fits_c18 (x1 : Int32) (x2 : Int32) : Nat → Int32 → Int32 → SI → (Int32 × SI)
  | 0, _, _, σ => (0, σ)
  | fu + 1, v3, v4, σ => if (30 : Int32) < v4 then (if x2 = (-1 : Int32) then (v3, σ) else ((-1 : Int32), σ)) else (let r0 := (f11_isFitting σ x1 v4); if r0.1 = true then (if v3 = x2 then (v4, r0.2) else (f11_fits_c18 x1 x2 fu (v3 + 1) (v4 + 1) r0.2)) else (f11_fits_c18 x1 x2 fu v3 (v4 + 1) r0.2))
def f11_fits (σ : SI) (x1 : Int32) (x2 : Int32) : Int32 × SI := if (f8_isHouse 10 σ x1) = true then (f11_fits_c18 x1 x2 ((Int32.toInt (30 : Int32) + 1 - Int32.toInt (0 : Int32)).toNat + 1) (0 : Int32) (0 : Int32) σ) else ((-1 : Int32), σ)
theorem w_f11_fits_c18 (x1 : Int32) (x2 : Int32) (a : Nat) (h0 : a ≠ 13) (h1 : a ≠ 15) : ∀ (fu : Nat) (v3 : Int32) (v4 : Int32) (σ : SI), (f11_fits_c18 x1 x2 fu v3 v4 σ).2 a = σ a := by
  intro fu
  induction fu with
  | zero => intros; rfl
  | succ fu ih =>
    intro v3 v4 σ
    unfold f11_fits_c18
    (repeat' split) <;> (first | rfl | (simp only [sp_n, su_n, ne_eq, not_false_eq_true, h0, h1, w_f11_isFitting, ih]; done) | (simp [sp_n, su_n, ne_eq, not_false_eq_true, h0, h1, w_f11_isFitting, ih]; done))
theorem w_f11_fits (σ : SI) (x1 : Int32) (x2 : Int32) (a : Nat) (h0 : a ≠ 13) (h1 : a ≠ 15) : (f11_fits σ x1 x2).2 a = σ a := by
  unfold f11_fits
  (repeat' split) <;> (first | rfl | (simp only [sp_n, su_n, ne_eq, not_false_eq_true, h0, h1, w_f11_isFitting, w_f11_fits_c18]; done) | (simp [sp_n, su_n, ne_eq, not_false_eq_true, h0, h1, w_f11_isFitting, w_f11_fits_c18]; done))
set_option maxHeartbeats 4000000 in
set_option maxRecDepth 100000 in
theorem c11_fits_c18 {l : Launch} {p : Program} {e : Env} {s : State} {m : MethodId} {args : Array Value} {below : List Frame} {meth : Method} {c : Code} {G : GT} (X : CX p s m args meth c cX11_fits RX11 5 (some .int) G) {E : Int32 × SI} (τ : SL) (x1 : Int32) (x2 : Int32) : ∀ (fu : Nat) (v3 : Int32) (v4 : Int32) (σ : SI) (H : Heap) (locs : List Loc) (ls : Array Slot), IX G s H locs σ τ → lv_has ls 5 [(0, .ref (G.2.1 0)), (1, .int x1), (2, .int x2), (3, .int v3), (4, .int v4)] → (Int32.toInt (30 : Int32) + 1 - Int32.toInt v4).toNat < fu → E = (f11_fits_c18 x1 x2 fu v3 v4 σ) → W p l e (rmN 8) s m args below meth c H locs 0 0 (MQ below ((Qi G (Ei E.1 E.2 τ)) s.heap.size) args s 0 0 (AW G s.heap.size)) (F0 m 18 ls []) := by
  intro fu
  induction fu with
  | zero =>
    intro v3 v4 σ H locs ls I hl  hm hE
    exact absurd hm (Nat.not_lt_zero _)
  | succ fu ih =>
    intro v3 v4 σ H locs ls I hl  hm hE
    refine lv_iload X.1 X.2.1 dX11_fits_18 (lv_at hl 4 rfl) ?_
    refine lv_bipush (v := 30) X.1 X.2.1 dX11_fits_20 (by decide) ?_
    refine lv_icmp_gt (tgt := 52) X.1 X.2.1 dX11_fits_22 (by decide) (fun c_2 => ?_) (fun c_2 => ?_)
    · skip
      refine lv_iload_n X.1 X.2.1 dX11_fits_52 rfl (lv_at hl 2 rfl) ?_
      refine lv_iconst (v := (-1)) X.1 X.2.1 dX11_fits_53 (by decide) ?_
      refine lv_icmp_ne (tgt := 61) X.1 X.2.1 dX11_fits_54 (by decide) (fun c_3 => ?_) (fun c_3 => ?_)
      · skip
        refine lv_iconst (v := (-1)) X.1 X.2.1 dX11_fits_61 (by decide) ?_
        have h9 := hE.trans ((if_pos c_2).trans ((if_neg c_3).trans rfl))
        exact r_iret X I (e_i (congrArg Prod.fst h9).symm (congrArg Prod.snd h9).symm rfl) dX11_fits_62
      · skip
        refine lv_iload_n X.1 X.2.1 dX11_fits_57 rfl (lv_at hl 3 rfl) ?_
        refine lv_goto (tgt := 62) X.1 X.2.1 dX11_fits_58 (by decide) ?_
        have h9 := hE.trans ((if_pos c_2).trans ((if_pos c_3).trans rfl))
        exact r_iret X I (e_i (congrArg Prod.fst h9).symm (congrArg Prod.snd h9).symm rfl) dX11_fits_62
    · skip
      refine lv_aload_n X.1 X.2.1 dX11_fits_25 rfl (lv_at hl 0 rfl) ?_
      refine lv_iload_n X.1 X.2.1 dX11_fits_26 rfl (lv_at hl 1 rfl) ?_
      refine lv_iload X.1 X.2.1 dX11_fits_27 (lv_at hl 4 rfl) ?_
      refine r_ei I (r_runV X I pk_X11_isFitting (c11_isFitting l G _ _ _ _) lm_X11_361 (by decide) (cl_11 rfl) rfl rfl rfl hl.1 rfl (Nat.le_of_ble_eq_true rfl) dX11_fits_29 ⟨Nat.le_of_ble_eq_true rfl, Nat.le_of_ble_eq_true rfl⟩ ⟨Nat.le_refl 0, Nat.le_refl 0⟩) (fun H locs I => ?_)
      refine lv_if_eq (tgt := 46) X.1 X.2.1 dX11_fits_32 (by decide) (fun c_4 => ?_) (fun c_4 => ?_)
      · skip
        refine lv_iinc (v := _ + 1) (lv' := [(4, .int _), (0, .ref _), (1, .int _), (2, .int _), (3, .int _)]) X.1 X.2.1 dX11_fits_46 hl (k := 4) rfl rfl (by decide) rfl (fun ls hl => ?_)
        refine lv_goto (tgt := 18) X.1 X.2.1 dX11_fits_49 (by decide) ?_
        exact ih _ _ _ _ _ _ I (lv_sub hl [1, 2, 3, 4, 0] rfl) (Nat.lt_of_lt_of_le (up_decE (by decide) c_2) (Nat.le_of_lt_succ hm)) (hE.trans ((if_neg c_2).trans ((if_neg (b2i_n c_4)).trans rfl)))
      · skip
        refine lv_iload_n X.1 X.2.1 dX11_fits_35 rfl (lv_at hl 3 rfl) ?_
        refine lv_iload_n X.1 X.2.1 dX11_fits_36 rfl (lv_at hl 2 rfl) ?_
        refine lv_icmp_ne (tgt := 43) X.1 X.2.1 dX11_fits_37 (by decide) (fun c_5 => ?_) (fun c_5 => ?_)
        · skip
          refine lv_iinc (v := _ + 1) (lv' := [(3, .int _), (0, .ref _), (1, .int _), (2, .int _), (4, .int _)]) X.1 X.2.1 dX11_fits_43 hl (k := 3) rfl rfl (by decide) rfl (fun ls hl => ?_)
          refine lv_iinc (v := _ + 1) (lv' := [(4, .int _), (3, .int _), (0, .ref _), (1, .int _), (2, .int _)]) X.1 X.2.1 dX11_fits_46 hl (k := 4) rfl rfl (by decide) rfl (fun ls hl => ?_)
          refine lv_goto (tgt := 18) X.1 X.2.1 dX11_fits_49 (by decide) ?_
          exact ih _ _ _ _ _ _ I (lv_sub hl [2, 3, 4, 1, 0] rfl) (Nat.lt_of_lt_of_le (up_decE (by decide) c_2) (Nat.le_of_lt_succ hm)) (hE.trans ((if_neg c_2).trans ((if_pos (b2i_y c_4)).trans ((if_neg c_5).trans rfl))))
        · skip
          refine lv_iload X.1 X.2.1 dX11_fits_40 (lv_at hl 4 rfl) ?_
          have h9 := hE.trans ((if_neg c_2).trans ((if_pos (b2i_y c_4)).trans ((if_pos c_5).trans rfl)))
          exact r_iret X I (e_i (congrArg Prod.fst h9).symm (congrArg Prod.snd h9).symm rfl) dX11_fits_42
set_option maxHeartbeats 4000000 in
set_option maxRecDepth 100000 in
theorem c11_fits (l : Launch) (G : GT) (σ : SI) (τ : SL) (x1 : Int32) (x2 : Int32) : Mc l yX11_fits cX11_fits 5 (some .int) 8 G [.ref (G.2.1 0), .int x1, .int x2] σ τ (Qi G (Ei (f11_fits σ x1 x2).1 (f11_fits σ x1 x2).2 τ)) := by
  refine m_start (by decide +kernel) (Nat.le_of_ble_eq_true rfl) rfl (fun p e s m args below meth c ls X I hl => ?_)
  have hl : lv_has ls 5 [(0, .ref (G.2.1 0)), (1, .int x1), (2, .int x2)] := hl
  obtain ⟨E, hE⟩ : ∃ E, E = (f11_fits σ x1 x2) := ⟨_, rfl⟩
  rw [← hE]
  refine lv_aload_n X.1 X.2.1 dX11_fits_0 rfl (lv_at hl 0 rfl) ?_
  refine g11_3 X I (k := 0) (by decide) rfl lf_X11_35 dX11_fits_1 ?_
  refine lv_iload_n X.1 X.2.1 dX11_fits_4 rfl (lv_at hl 1 rfl) ?_
  refine r_ei I (r_runV X I pk_X8_isHouse (c8_isHouse l G (k := 10) ⟨by decide, rfl, rfl, rfl⟩ _ _ _) lm_X11_173 (by decide) (cl_8 rfl) rfl rfl rfl hl.1 rfl (Nat.le_of_ble_eq_true rfl) dX11_fits_5 ⟨Nat.le_of_ble_eq_true rfl, Nat.le_of_ble_eq_true rfl⟩ ⟨Nat.le_refl 0, Nat.le_refl 0⟩) (fun H locs I => ?_)
  refine lv_if_ne (tgt := 13) X.1 X.2.1 dX11_fits_8 (by decide) (fun c_1 => ?_) (fun c_1 => ?_)
  · skip
    refine lv_iconst (v := 0) X.1 X.2.1 dX11_fits_13 (by decide) ?_
    refine lv_istore_n (lv' := [(3, .int _), (0, .ref _), (1, .int _), (2, .int _)]) X.1 X.2.1 dX11_fits_14 rfl hl (by decide) rfl (fun ls hl => ?_)
    refine lv_iconst (v := 0) X.1 X.2.1 dX11_fits_15 (by decide) ?_
    refine lv_istore (lv' := [(4, .int _), (3, .int _), (0, .ref _), (1, .int _), (2, .int _)]) X.1 X.2.1 dX11_fits_16 hl (by decide) rfl (fun ls hl => ?_)
    exact c11_fits_c18 X _ _ _ _ _ _ _ _ _ _ I (lv_sub hl [2, 3, 4, 1, 0] rfl) (Nat.lt_succ_self _) (hE.trans ((if_pos (b2i_y c_1)).trans rfl))
  · skip
    refine lv_iconst (v := (-1)) X.1 X.2.1 dX11_fits_11 (by decide) ?_
    have h9 := hE.trans ((if_neg (b2i_n c_1)).trans rfl)
    exact r_iret X I (e_i (congrArg Prod.fst h9).symm (congrArg Prod.snd h9).symm rfl) dX11_fits_12
