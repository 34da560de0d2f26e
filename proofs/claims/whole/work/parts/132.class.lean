noncomputable def f11_rival (σ : SI) (x1 : Int32) : Int32 := if (f8_isHouse 10 σ x1) = true then (f11_rivalComes σ x1) else (-1 : Int32)
set_option maxHeartbeats 4000000 in
set_option maxRecDepth 100000 in
theorem c11_rival (l : Launch) (G : GT) (σ : SI) (τ : SL) (x1 : Int32) : Mc l yX11_rival cX11_rival 2 (some .int) 4 G [.ref (G.2.1 0), .int x1] σ τ (Qi G (Ei (f11_rival σ x1) σ τ)) := by
  refine m_start (by decide +kernel) (Nat.le_of_ble_eq_true rfl) rfl (fun p e s m args below meth c ls X I hl => ?_)
  have hl : lv_has ls 2 [(0, .ref (G.2.1 0)), (1, .int x1)] := hl
  obtain ⟨E, hE⟩ : ∃ E, E = (f11_rival σ x1) := ⟨_, rfl⟩
  rw [← hE]
  refine lv_aload_n X.1 X.2.1 dX11_rival_0 rfl (lv_at hl 0 rfl) ?_
  refine g11_3 X I (k := 0) (by decide) rfl lf_X11_35 dX11_rival_1 ?_
  refine lv_iload_n X.1 X.2.1 dX11_rival_4 rfl (lv_at hl 1 rfl) ?_
  refine r_ei I (r_runV X I pk_X8_isHouse (c8_isHouse l G (k := 10) ⟨by decide, rfl, rfl, rfl⟩ _ _ _) lm_X11_169 (by decide) (cl_8 rfl) rfl rfl rfl hl.1 rfl (Nat.le_of_ble_eq_true rfl) dX11_rival_5 ⟨Nat.le_of_ble_eq_true rfl, Nat.le_of_ble_eq_true rfl⟩ ⟨Nat.le_refl 0, Nat.le_refl 0⟩) (fun H locs I => ?_)
  refine lv_if_eq (tgt := 19) X.1 X.2.1 dX11_rival_8 (by decide) (fun c_1 => ?_) (fun c_1 => ?_)
  · skip
    have hE := ite_f hE (b2i_n c_1)
    refine lv_iconst (v := (-1)) X.1 X.2.1 dX11_rival_19 (by decide) ?_
    have h9 := hE
    exact r_iret X I (e_i h9.symm rfl rfl) dX11_rival_20
  · skip
    have hE := ite_t hE (b2i_y c_1)
    refine lv_aload_n X.1 X.2.1 dX11_rival_11 rfl (lv_at hl 0 rfl) ?_
    refine lv_iload_n X.1 X.2.1 dX11_rival_12 rfl (lv_at hl 1 rfl) ?_
    refine r_ei I (r_runV X I pk_X11_rivalComes (c11_rivalComes l G _ _ _) lm_X11_407 (by decide) (cl_11 rfl) rfl rfl rfl hl.1 rfl (Nat.le_of_ble_eq_true rfl) dX11_rival_13 ⟨Nat.le_of_ble_eq_true rfl, Nat.le_of_ble_eq_true rfl⟩ ⟨Nat.le_refl 0, Nat.le_refl 0⟩) (fun H locs I => ?_)
    refine lv_goto (tgt := 20) X.1 X.2.1 dX11_rival_16 (by decide) ?_
    have h9 := hE
    exact r_iret X I (e_i h9.symm rfl rfl) dX11_rival_20
noncomputable def f11_meets (σ : SI) (x1 : Int32) : Int32 × SI := if (f8_isHouse 10 σ x1) = true then (if (f11_rivalComes σ x1) = (-1 : Int32) then ((0 : Int32), σ) else (let r0 := (f11_standsNow σ x1 (f0_grievanceOf 24 σ x1)); if (((σ 24 2) + (f11_stepsTo σ x1)) + (if (1 : Int32) < r0.1 then r0.1 else (1 : Int32))) ≤ (f11_rivalComes σ x1) then ((0 : Int32), r0.2) else (if ((f11_rivalComes σ x1) + (2 : Int32)) ≤ ((σ 24 2) + (f11_stepsTo σ x1)) then ((0 : Int32), r0.2) else ((1 : Int32), r0.2)))) else ((-1 : Int32), σ)
theorem w_f11_meets (σ : SI) (x1 : Int32) (a : Nat) (h0 : a ≠ 13) (h1 : a ≠ 15) : (f11_meets σ x1).2 a = σ a := by
  refine fp_to2 ?_
  unfold f11_meets
  exact (fr_ite2 (fr_ite2 (fr_mk21 rfl) (fr_ite2 (fr_mk21 (w_f11_standsNow _ _ _ a h0 h1)) (fr_ite2 (fr_mk21 (w_f11_standsNow _ _ _ a h0 h1)) (fr_mk21 (w_f11_standsNow _ _ _ a h0 h1))))) (fr_mk21 rfl))
set_option maxHeartbeats 4000000 in
set_option maxRecDepth 100000 in
theorem c11_meets (l : Launch) (G : GT) (σ : SI) (τ : SL) (x1 : Int32) : Mc l yX11_meets cX11_meets 5 (some .int) 5 G [.ref (G.2.1 0), .int x1] σ τ (Qi G (Ei (f11_meets σ x1).1 (f11_meets σ x1).2 τ)) := by
  refine m_start (by decide +kernel) (Nat.le_of_ble_eq_true rfl) rfl (fun p e s m args below meth c ls X I hl => ?_)
  have hl : lv_has ls 5 [(0, .ref (G.2.1 0)), (1, .int x1)] := hl
  obtain ⟨E, hE⟩ : ∃ E, E = (f11_meets σ x1) := ⟨_, rfl⟩
  rw [← hE]
  refine lv_aload_n X.1 X.2.1 dX11_meets_0 rfl (lv_at hl 0 rfl) ?_
  refine g11_3 X I (k := 0) (by decide) rfl lf_X11_35 dX11_meets_1 ?_
  refine lv_iload_n X.1 X.2.1 dX11_meets_4 rfl (lv_at hl 1 rfl) ?_
  refine r_ei I (r_runV X I pk_X8_isHouse (c8_isHouse l G (k := 10) ⟨by decide, rfl, rfl, rfl⟩ _ _ _) lm_X11_169 (by decide) (cl_8 rfl) rfl rfl rfl hl.1 rfl (Nat.le_of_ble_eq_true rfl) dX11_meets_5 ⟨Nat.le_of_ble_eq_true rfl, Nat.le_of_ble_eq_true rfl⟩ ⟨Nat.le_refl 0, Nat.le_refl 0⟩) (fun H locs I => ?_)
  refine lv_if_ne (tgt := 13) X.1 X.2.1 dX11_meets_8 (by decide) (fun c_1 => ?_) (fun c_1 => ?_)
  · skip
    have hE := ite_t hE (b2i_y c_1)
    refine lv_aload_n X.1 X.2.1 dX11_meets_13 rfl (lv_at hl 0 rfl) ?_
    refine lv_iload_n X.1 X.2.1 dX11_meets_14 rfl (lv_at hl 1 rfl) ?_
    refine r_ei I (r_runV X I pk_X11_rivalComes (c11_rivalComes l G _ _ _) lm_X11_407 (by decide) (cl_11 rfl) rfl rfl rfl hl.1 rfl (Nat.le_of_ble_eq_true rfl) dX11_meets_15 ⟨Nat.le_of_ble_eq_true rfl, Nat.le_of_ble_eq_true rfl⟩ ⟨Nat.le_refl 0, Nat.le_refl 0⟩) (fun H locs I => ?_)
    refine lv_istore_n (lv' := [(2, .int _), (0, .ref _), (1, .int _)]) X.1 X.2.1 dX11_meets_18 rfl hl (by decide) rfl (fun ls hl => ?_)
    refine lv_iload_n X.1 X.2.1 dX11_meets_19 rfl (lv_at hl 0 rfl) ?_
    refine lv_iconst (v := (-1)) X.1 X.2.1 dX11_meets_20 (by decide) ?_
    refine lv_icmp_ne (tgt := 26) X.1 X.2.1 dX11_meets_21 (by decide) (fun c_2 => ?_) (fun c_2 => ?_)
    · skip
      have hE := ite_f hE c_2
      refine lv_aload_n X.1 X.2.1 dX11_meets_26 rfl (lv_at hl 1 rfl) ?_
      refine g11_5 X I (k := 0) (by decide) rfl lf_X11_49 dX11_meets_27 ?_
      refine g0_2 X I (k := 24) (by decide) rfl lf_X11_213 dX11_meets_30 ?_
      refine lv_aload_n X.1 X.2.1 dX11_meets_33 rfl (lv_at hl 1 rfl) ?_
      refine lv_iload_n X.1 X.2.1 dX11_meets_34 rfl (lv_at hl 2 rfl) ?_
      refine r_ei I (r_runV X I pk_X11_stepsTo (c11_stepsTo l G _ _ _) lm_X11_200 (by decide) (cl_11 rfl) rfl rfl rfl hl.1 rfl (Nat.le_of_ble_eq_true rfl) dX11_meets_35 ⟨Nat.le_of_ble_eq_true rfl, Nat.le_of_ble_eq_true rfl⟩ ⟨Nat.le_refl 0, Nat.le_refl 0⟩) (fun H locs I => ?_)
      refine lv_iadd X.1 X.2.1 dX11_meets_38 ?_
      refine lv_istore_n (lv' := [(3, .int _), (2, .int _), (0, .ref _), (1, .int _)]) X.1 X.2.1 dX11_meets_39 rfl hl (by decide) rfl (fun ls hl => ?_)
      refine lv_iconst (v := 1) X.1 X.2.1 dX11_meets_40 (by decide) ?_
      refine lv_aload_n X.1 X.2.1 dX11_meets_41 rfl (lv_at hl 2 rfl) ?_
      refine lv_iload_n X.1 X.2.1 dX11_meets_42 rfl (lv_at hl 3 rfl) ?_
      refine lv_aload_n X.1 X.2.1 dX11_meets_43 rfl (lv_at hl 2 rfl) ?_
      refine g11_5 X I (k := 0) (by decide) rfl lf_X11_49 dX11_meets_44 ?_
      refine lv_iload_n X.1 X.2.1 dX11_meets_47 rfl (lv_at hl 3 rfl) ?_
      refine r_ei I (r_runV X I pk_X0_grievanceOf (c0_grievanceOf l G (k := 24) ⟨by decide, rfl, rfl⟩ _ _ _) lm_X11_182 (by decide) (cl_0 rfl) rfl rfl rfl hl.1 rfl (Nat.le_of_ble_eq_true rfl) dX11_meets_48 ⟨Nat.le_of_ble_eq_true rfl, Nat.le_of_ble_eq_true rfl⟩ ⟨Nat.le_refl 0, Nat.le_refl 0⟩) (fun H locs I => ?_)
      refine r_ei I (r_runV X I pk_X11_standsNow (c11_standsNow l G _ _ _ _) lm_X11_207 (by decide) (cl_11 rfl) rfl rfl rfl hl.1 rfl (Nat.le_of_ble_eq_true rfl) dX11_meets_51 ⟨Nat.le_of_ble_eq_true rfl, Nat.le_of_ble_eq_true rfl⟩ ⟨Nat.le_refl 0, Nat.le_refl 0⟩) (fun H locs I => ?_)
      refine r_mmax X hl.1 lm_X11_269 ls_J9_max_7cf53 ln_J9 lc_J9_max_7cf53 (Nat.le_of_ble_eq_true rfl) (Nat.le_of_ble_eq_true rfl) (Nat.le_refl 0) (Nat.le_refl 0) dX11_meets_54 ?_
      refine lv_istore (lv' := [(4, .int _), (3, .int _), (2, .int _), (0, .ref _), (1, .int _)]) X.1 X.2.1 dX11_meets_57 hl (by decide) rfl (fun ls hl => ?_)
      refine lv_iload_n X.1 X.2.1 dX11_meets_59 rfl (lv_at hl 2 rfl) ?_
      refine lv_iload_n X.1 X.2.1 dX11_meets_60 rfl (lv_at hl 1 rfl) ?_
      refine lv_iload X.1 X.2.1 dX11_meets_61 (lv_at hl 0 rfl) ?_
      refine lv_iadd X.1 X.2.1 dX11_meets_63 ?_
      refine lv_icmp_ge (tgt := 78) X.1 X.2.1 dX11_meets_64 (by decide) (fun c_3 => ?_) (fun c_3 => ?_)
      · skip
        have hE := ite_t hE c_3
        refine lv_iconst (v := 0) X.1 X.2.1 dX11_meets_78 (by decide) ?_
        have h9 := hE
        exact r_iret X I (e_i (pr_fst h9) (pr_snd h9) rfl) dX11_meets_79
      · skip
        have hE := ite_f hE c_3
        refine lv_iload_n X.1 X.2.1 dX11_meets_67 rfl (lv_at hl 1 rfl) ?_
        refine lv_iload_n X.1 X.2.1 dX11_meets_68 rfl (lv_at hl 2 rfl) ?_
        refine lv_iconst (v := 2) X.1 X.2.1 dX11_meets_69 (by decide) ?_
        refine lv_iadd X.1 X.2.1 dX11_meets_70 ?_
        refine lv_icmp_ge (tgt := 78) X.1 X.2.1 dX11_meets_71 (by decide) (fun c_4 => ?_) (fun c_4 => ?_)
        · skip
          have hE := ite_t hE c_4
          refine lv_iconst (v := 0) X.1 X.2.1 dX11_meets_78 (by decide) ?_
          have h9 := hE
          exact r_iret X I (e_i (pr_fst h9) (pr_snd h9) rfl) dX11_meets_79
        · skip
          have hE := ite_f hE c_4
          refine lv_iconst (v := 1) X.1 X.2.1 dX11_meets_74 (by decide) ?_
          refine lv_goto (tgt := 79) X.1 X.2.1 dX11_meets_75 (by decide) ?_
          have h9 := hE
          exact r_iret X I (e_i (pr_fst h9) (pr_snd h9) rfl) dX11_meets_79
    · skip
      have hE := ite_t hE c_2
      refine lv_iconst (v := 0) X.1 X.2.1 dX11_meets_24 (by decide) ?_
      have h9 := hE
      exact r_iret X I (e_i (pr_fst h9) (pr_snd h9) rfl) dX11_meets_25
  · skip
    have hE := ite_f hE (b2i_n c_1)
    refine lv_iconst (v := (-1)) X.1 X.2.1 dX11_meets_11 (by decide) ?_
    have h9 := hE
    exact r_iret X I (e_i (pr_fst h9) (pr_snd h9) rfl) dX11_meets_12
noncomputable def f11_seen (σ : SI) (x1 : Int32) (x2 : Int32) (x3 : Bool) : Int32 × SI := if (f8_isHouse 10 σ x2) = true then (if x1 < (0 : Int32) then ((-1 : Int32), σ) else (if x1 < (7 : Int32) then (let r0 := (f10_tellSeen σ x1 x2 x3); r0) else ((-1 : Int32), σ))) else ((-1 : Int32), σ)
theorem w_f11_seen (σ : SI) (x1 : Int32) (x2 : Int32) (x3 : Bool) (a : Nat) (h0 : a ≠ 33) (h1 : a ≠ 35) : (f11_seen σ x1 x2 x3).2 a = σ a := by
  refine fp_to2 ?_
  unfold f11_seen
  exact (fr_ite2 (fr_ite2 (fr_mk21 rfl) (fr_ite2 (w_f10_tellSeen _ _ _ _ a h0 h1) (fr_mk21 rfl))) (fr_mk21 rfl))
set_option maxHeartbeats 4000000 in
set_option maxRecDepth 100000 in
theorem c11_seen (l : Launch) (G : GT) (σ : SI) (τ : SL) (x1 : Int32) (x2 : Int32) (x3 : Bool) : Mc l yX11_seen cX11_seen 4 (some .int) 3 G [.ref (G.2.1 0), .int x1, .int x2, .int (b2i x3)] σ τ (Qi G (Ei (f11_seen σ x1 x2 x3).1 (f11_seen σ x1 x2 x3).2 τ)) := by
  refine m_start (by decide +kernel) (Nat.le_of_ble_eq_true rfl) rfl (fun p e s m args below meth c ls X I hl => ?_)
  have hl : lv_has ls 4 [(0, .ref (G.2.1 0)), (1, .int x1), (2, .int x2), (3, .int (b2i x3))] := hl
  obtain ⟨E, hE⟩ : ∃ E, E = (f11_seen σ x1 x2 x3) := ⟨_, rfl⟩
  rw [← hE]
  refine lv_aload_n X.1 X.2.1 dX11_seen_0 rfl (lv_at hl 0 rfl) ?_
  refine g11_3 X I (k := 0) (by decide) rfl lf_X11_35 dX11_seen_1 ?_
  refine lv_iload_n X.1 X.2.1 dX11_seen_4 rfl (lv_at hl 2 rfl) ?_
  refine r_ei I (r_runV X I pk_X8_isHouse (c8_isHouse l G (k := 10) ⟨by decide, rfl, rfl, rfl⟩ _ _ _) lm_X11_169 (by decide) (cl_8 rfl) rfl rfl rfl hl.1 rfl (Nat.le_of_ble_eq_true rfl) dX11_seen_5 ⟨Nat.le_of_ble_eq_true rfl, Nat.le_of_ble_eq_true rfl⟩ ⟨Nat.le_refl 0, Nat.le_refl 0⟩) (fun H locs I => ?_)
  refine lv_if_eq (tgt := 21) X.1 X.2.1 dX11_seen_8 (by decide) (fun c_1 => ?_) (fun c_1 => ?_)
  · skip
    have hE := ite_f hE (b2i_n c_1)
    refine lv_iconst (v := (-1)) X.1 X.2.1 dX11_seen_21 (by decide) ?_
    have h9 := hE
    exact r_iret X I (e_i (pr_fst h9) (pr_snd h9) rfl) dX11_seen_22
  · skip
    have hE := ite_t hE (b2i_y c_1)
    refine lv_iload_n X.1 X.2.1 dX11_seen_11 rfl (lv_at hl 1 rfl) ?_
    refine lv_if_lt (tgt := 21) X.1 X.2.1 dX11_seen_12 (by decide) (fun c_2 => ?_) (fun c_2 => ?_)
    · skip
      have hE := ite_t hE c_2
      refine lv_iconst (v := (-1)) X.1 X.2.1 dX11_seen_21 (by decide) ?_
      have h9 := hE
      exact r_iret X I (e_i (pr_fst h9) (pr_snd h9) rfl) dX11_seen_22
    · skip
      have hE := ite_f hE c_2
      refine lv_iload_n X.1 X.2.1 dX11_seen_15 rfl (lv_at hl 1 rfl) ?_
      refine lv_bipush (v := 7) X.1 X.2.1 dX11_seen_16 (by decide) ?_
      refine lv_icmp_lt (tgt := 23) X.1 X.2.1 dX11_seen_18 (by decide) (fun c_3 => ?_) (fun c_3 => ?_)
      · skip
        have hE := ite_t hE c_3
        refine lv_aload_n X.1 X.2.1 dX11_seen_23 rfl (lv_at hl 0 rfl) ?_
        refine g11_8 X I (k := 0) (by decide) rfl lf_X11_72 dX11_seen_24 ?_
        refine lv_iload_n X.1 X.2.1 dX11_seen_27 rfl (lv_at hl 1 rfl) ?_
        refine lv_iload_n X.1 X.2.1 dX11_seen_28 rfl (lv_at hl 2 rfl) ?_
        refine lv_iload_n X.1 X.2.1 dX11_seen_29 rfl (lv_at hl 3 rfl) ?_
        refine r_ei I (r_runV X I pk_X10_tellSeen (c10_tellSeen l G _ _ _ _ _) lm_X11_410 (by decide) (cl_10 rfl) rfl rfl rfl hl.1 rfl (Nat.le_of_ble_eq_true rfl) dX11_seen_30 ⟨Nat.le_of_ble_eq_true rfl, Nat.le_of_ble_eq_true rfl⟩ ⟨Nat.le_refl 0, Nat.le_refl 0⟩) (fun H locs I => ?_)
        have h9 := hE
        exact r_iret X I (e_i (congrArg Prod.fst h9).symm (congrArg Prod.snd h9).symm rfl) dX11_seen_33
      · skip
        have hE := ite_f hE c_3
        refine lv_iconst (v := (-1)) X.1 X.2.1 dX11_seen_21 (by decide) ?_
        have h9 := hE
        exact r_iret X I (e_i (pr_fst h9) (pr_snd h9) rfl) dX11_seen_22
noncomputable def f11_orderTold_c9 (x1 : Int32) (x2 : Int32) : Nat → Int32 → SI → SI
  | 0, _, σ => σ
  | fu + 1, v3, σ => if (f8_houses 10 σ) ≤ v3 then σ else (if v3 = x1 then (let s2 := (f6_put σ v3 (if ((f8_toldGrievance 10 σ v3) + x2) < (30 : Int32) then ((f8_toldGrievance 10 σ v3) + x2) else (30 : Int32))); (f11_orderTold_c9 x1 x2 fu (v3 + 1) s2)) else (let s1 := (f6_put σ v3 (if ((f8_toldGrievance 10 σ v3) + (0 : Int32)) < (30 : Int32) then ((f8_toldGrievance 10 σ v3) + (0 : Int32)) else (30 : Int32))); (f11_orderTold_c9 x1 x2 fu (v3 + 1) s1)))
noncomputable def f11_orderTold (σ : SI) (x1 : Int32) (x2 : Int32) : SI := let s0 := (f6_clear σ); (f11_orderTold_c9 x1 x2 (fu1 ((Int32.toInt (f8_houses 10 s0) - Int32.toInt (0 : Int32)).toNat)) (0 : Int32) s0)
theorem w_f11_orderTold_c9 (x1 : Int32) (x2 : Int32) (a : Nat) (h0 : a ≠ 36) (h1 : a ≠ 37) (h2 : a ≠ 38) : ∀ (fu : Nat) (v3 : Int32) (σ : SI), (f11_orderTold_c9 x1 x2 fu v3 σ) a = σ a := by
  intro fu
  induction fu with
  | zero => intro v3 σ; exact rfl
  | succ fu ih =>
    intro v3 σ
    unfold f11_orderTold_c9
    exact (fr_ite rfl (fr_ite ((ih _ _).trans (w_f6_put _ _ _ a h0 h1 h2)) ((ih _ _).trans (w_f6_put _ _ _ a h0 h1 h2))))
theorem w_f11_orderTold (σ : SI) (x1 : Int32) (x2 : Int32) (a : Nat) (h0 : a ≠ 36) (h1 : a ≠ 37) (h2 : a ≠ 38) : (f11_orderTold σ x1 x2) a = σ a := by
  unfold f11_orderTold
  exact ((w_f11_orderTold_c9 _ _ a h0 h1 h2 _ _ _).trans (w_f6_clear _ a h0))
set_option maxHeartbeats 4000000 in
set_option maxRecDepth 100000 in
theorem c11_orderTold_c9 {l : Launch} {p : Program} {e : Env} {s : State} {m : MethodId} {args : Array Value} {below : List Frame} {meth : Method} {c : Code} {G : GT} (X : CX p s m args meth c cX11_orderTold RX11 5 none G) {E : SI} (τ : SL) (x1 : Int32) (x2 : Int32) : ∀ (fu : Nat) (v3 : Int32) (σ : SI) (H : Heap) (locs : List Loc) (ls : Array Slot), IX G s H locs σ τ → lv_has ls 5 [(0, .ref (G.2.1 0)), (1, .int x1), (2, .int x2), (3, .int v3)] → (Int32.toInt (f8_houses 10 σ) - Int32.toInt v3).toNat < fu → E = (f11_orderTold_c9 x1 x2 fu v3 σ) → W p l e (rmN 2) s m args below meth c H locs 0 0 (MQ below ((Qv G (Ev E τ)) s.heap.size) args s 0 0 (AW G s.heap.size)) (F0 m 9 ls []) := by
  intro fu
  induction fu with
  | zero =>
    intro v3 σ H locs ls I hl  hm hE
    exact absurd hm (Nat.not_lt_zero _)
  | succ fu ih =>
    intro v3 σ H locs ls I hl  hm hE
    refine lv_iload_n X.1 X.2.1 dX11_orderTold_9 rfl (lv_at hl 3 rfl) ?_
    refine lv_aload_n X.1 X.2.1 dX11_orderTold_10 rfl (lv_at hl 0 rfl) ?_
    refine g11_3 X I (k := 0) (by decide) rfl lf_X11_35 dX11_orderTold_11 ?_
    refine r_ei I (r_runV X I pk_X8_houses (c8_houses l G (k := 10) ⟨by decide, rfl, rfl, rfl⟩ _ _) lm_X11_151 (by decide) (cl_8 rfl) rfl rfl rfl hl.1 rfl (Nat.le_of_ble_eq_true rfl) dX11_orderTold_14 ⟨Nat.le_of_ble_eq_true rfl, Nat.le_of_ble_eq_true rfl⟩ ⟨Nat.le_refl 0, Nat.le_refl 0⟩) (fun H locs I => ?_)
    refine lv_icmp_ge (tgt := 62) X.1 X.2.1 dX11_orderTold_17 (by decide) (fun c_1 => ?_) (fun c_1 => ?_)
    · skip
      have hE := ite_t hE c_1
      have h9 := hE
      exact r_vret X I (e_v h9.symm rfl) dX11_orderTold_62
    · skip
      have hE := ite_f hE c_1
      refine lv_aload_n X.1 X.2.1 dX11_orderTold_20 rfl (lv_at hl 0 rfl) ?_
      refine g11_3 X I (k := 0) (by decide) rfl lf_X11_35 dX11_orderTold_21 ?_
      refine lv_iload_n X.1 X.2.1 dX11_orderTold_24 rfl (lv_at hl 3 rfl) ?_
      refine r_ei I (r_runV X I pk_X8_toldGrievance (c8_toldGrievance l G (k := 10) ⟨by decide, rfl, rfl, rfl⟩ _ _ _) lm_X11_432 (by decide) (cl_8 rfl) rfl rfl rfl hl.1 rfl (Nat.le_of_ble_eq_true rfl) dX11_orderTold_25 ⟨Nat.le_of_ble_eq_true rfl, Nat.le_of_ble_eq_true rfl⟩ ⟨Nat.le_refl 0, Nat.le_refl 0⟩) (fun H locs I => ?_)
      refine lv_iload_n X.1 X.2.1 dX11_orderTold_28 rfl (lv_at hl 3 rfl) ?_
      refine lv_iload_n X.1 X.2.1 dX11_orderTold_29 rfl (lv_at hl 1 rfl) ?_
      refine lv_icmp_ne (tgt := 37) X.1 X.2.1 dX11_orderTold_30 (by decide) (fun c_2 => ?_) (fun c_2 => ?_)
      · skip
        have hE := ite_f hE c_2
        refine lv_iconst (v := 0) X.1 X.2.1 dX11_orderTold_37 (by decide) ?_
        refine lv_iadd X.1 X.2.1 dX11_orderTold_38 ?_
        refine lv_istore (lv' := [(4, .int _), (0, .ref _), (1, .int _), (2, .int _), (3, .int _)]) X.1 X.2.1 dX11_orderTold_39 hl (by decide) rfl (fun ls hl => ?_)
        refine lv_aload_n X.1 X.2.1 dX11_orderTold_41 rfl (lv_at hl 1 rfl) ?_
        refine g11_9 X I (k := 0) (by decide) rfl lf_X11_79 dX11_orderTold_42 ?_
        refine lv_iload_n X.1 X.2.1 dX11_orderTold_45 rfl (lv_at hl 4 rfl) ?_
        refine lv_bipush (v := 30) X.1 X.2.1 dX11_orderTold_46 (by decide) ?_
        refine lv_iload X.1 X.2.1 dX11_orderTold_48 (lv_at hl 0 rfl) ?_
        refine r_mmin X hl.1 lm_X11_283 ls_J9_min_7cf53 ln_J9 lc_J9_min_7cf53 (Nat.le_of_ble_eq_true rfl) (Nat.le_of_ble_eq_true rfl) (Nat.le_refl 0) (Nat.le_refl 0) dX11_orderTold_50 ?_
        refine r_ev I (r_runV X I pk_X6_put (c6_put l G _ _ _ _) lm_X11_339 (by decide) (cl_6 rfl) rfl rfl rfl hl.1 rfl (Nat.le_of_ble_eq_true rfl) dX11_orderTold_53 ⟨Nat.le_of_ble_eq_true rfl, Nat.le_of_ble_eq_true rfl⟩ ⟨Nat.le_refl 0, Nat.le_refl 0⟩) (fun H locs I => ?_)
        refine lv_iinc (v := _ + 1) (lv' := [(3, .int _), (4, .int _), (0, .ref _), (1, .int _), (2, .int _)]) X.1 X.2.1 dX11_orderTold_56 hl (k := 4) rfl rfl (by decide) rfl (fun ls hl => ?_)
        refine lv_goto (tgt := 9) X.1 X.2.1 dX11_orderTold_59 (by decide) ?_
        exact ih _ _ _ _ _ I (lv_sub hl [2, 3, 4, 0] rfl) (Nat.lt_of_lt_of_le (dec_c (by first | with_reducible rfl | simp [f8_houses, f11_cell, w_f6_clear, w_f6_put, sp_n]) (up_dec c_1)) (Nat.le_of_lt_succ hm)) (hE.trans (rfl))
      · skip
        have hE := ite_t hE c_2
        refine lv_iload_n X.1 X.2.1 dX11_orderTold_33 rfl (lv_at hl 2 rfl) ?_
        refine lv_goto (tgt := 38) X.1 X.2.1 dX11_orderTold_34 (by decide) ?_
        refine lv_iadd X.1 X.2.1 dX11_orderTold_38 ?_
        refine lv_istore (lv' := [(4, .int _), (0, .ref _), (1, .int _), (2, .int _), (3, .int _)]) X.1 X.2.1 dX11_orderTold_39 hl (by decide) rfl (fun ls hl => ?_)
        refine lv_aload_n X.1 X.2.1 dX11_orderTold_41 rfl (lv_at hl 1 rfl) ?_
        refine g11_9 X I (k := 0) (by decide) rfl lf_X11_79 dX11_orderTold_42 ?_
        refine lv_iload_n X.1 X.2.1 dX11_orderTold_45 rfl (lv_at hl 4 rfl) ?_
        refine lv_bipush (v := 30) X.1 X.2.1 dX11_orderTold_46 (by decide) ?_
        refine lv_iload X.1 X.2.1 dX11_orderTold_48 (lv_at hl 0 rfl) ?_
        refine r_mmin X hl.1 lm_X11_283 ls_J9_min_7cf53 ln_J9 lc_J9_min_7cf53 (Nat.le_of_ble_eq_true rfl) (Nat.le_of_ble_eq_true rfl) (Nat.le_refl 0) (Nat.le_refl 0) dX11_orderTold_50 ?_
        refine r_ev I (r_runV X I pk_X6_put (c6_put l G _ _ _ _) lm_X11_339 (by decide) (cl_6 rfl) rfl rfl rfl hl.1 rfl (Nat.le_of_ble_eq_true rfl) dX11_orderTold_53 ⟨Nat.le_of_ble_eq_true rfl, Nat.le_of_ble_eq_true rfl⟩ ⟨Nat.le_refl 0, Nat.le_refl 0⟩) (fun H locs I => ?_)
        refine lv_iinc (v := _ + 1) (lv' := [(3, .int _), (4, .int _), (0, .ref _), (1, .int _), (2, .int _)]) X.1 X.2.1 dX11_orderTold_56 hl (k := 4) rfl rfl (by decide) rfl (fun ls hl => ?_)
        refine lv_goto (tgt := 9) X.1 X.2.1 dX11_orderTold_59 (by decide) ?_
        exact ih _ _ _ _ _ I (lv_sub hl [2, 3, 4, 0] rfl) (Nat.lt_of_lt_of_le (dec_c (by first | with_reducible rfl | simp [f8_houses, f11_cell, w_f6_clear, w_f6_put, sp_n]) (up_dec c_1)) (Nat.le_of_lt_succ hm)) (hE.trans (rfl))
set_option maxHeartbeats 4000000 in
set_option maxRecDepth 100000 in
theorem c11_orderTold (l : Launch) (G : GT) (σ : SI) (τ : SL) (x1 : Int32) (x2 : Int32) : Mc l yX11_orderTold cX11_orderTold 5 none 2 G [.ref (G.2.1 0), .int x1, .int x2] σ τ (Qv G (Ev (f11_orderTold σ x1 x2) τ)) := by
  refine m_start (by decide +kernel) (Nat.le_of_ble_eq_true rfl) rfl (fun p e s m args below meth c ls X I hl => ?_)
  have hl : lv_has ls 5 [(0, .ref (G.2.1 0)), (1, .int x1), (2, .int x2)] := hl
  obtain ⟨E, hE⟩ : ∃ E, E = (f11_orderTold σ x1 x2) := ⟨_, rfl⟩
  rw [← hE]
  refine lv_aload_n X.1 X.2.1 dX11_orderTold_0 rfl (lv_at hl 0 rfl) ?_
  refine g11_9 X I (k := 0) (by decide) rfl lf_X11_79 dX11_orderTold_1 ?_
  refine r_ev I (r_runV X I pk_X6_clear (c6_clear l G _ _) lm_X11_336 (by decide) (cl_6 rfl) rfl rfl rfl hl.1 rfl (Nat.le_of_ble_eq_true rfl) dX11_orderTold_4 ⟨Nat.le_of_ble_eq_true rfl, Nat.le_of_ble_eq_true rfl⟩ ⟨Nat.le_refl 0, Nat.le_refl 0⟩) (fun H locs I => ?_)
  refine lv_iconst (v := 0) X.1 X.2.1 dX11_orderTold_7 (by decide) ?_
  refine lv_istore_n (lv' := [(3, .int _), (0, .ref _), (1, .int _), (2, .int _)]) X.1 X.2.1 dX11_orderTold_8 rfl hl (by decide) rfl (fun ls hl => ?_)
  exact c11_orderTold_c9 X _ _ _ _ _ _ _ _ _ I (lv_sub hl [1, 2, 3, 0] rfl) (fu1_lt _) (hE.trans (rfl))
noncomputable def f11_isSeenSo_c8 (σ : SI) (x1 : Int32) (x2 : Int32) : Nat → Int32 → (Bool × SI)
  | 0, _ => (false, σ)
  | fu + 1, v3 => if (f10_seens σ) ≤ v3 then (true, σ) else (if (f6_houseAt σ (f10_seenPlace σ v3)) = (f10_seenHouse σ v3) then (if (1 : Int32) = (b2i (f10_seenIs σ v3)) then (f11_isSeenSo_c8 σ x1 x2 fu (v3 + 1)) else (false, σ)) else (if (0 : Int32) = (b2i (f10_seenIs σ v3)) then (f11_isSeenSo_c8 σ x1 x2 fu (v3 + 1)) else (false, σ)))
noncomputable def f11_isSeenSo (σ : SI) (x1 : Int32) (x2 : Int32) : Bool × SI := let s0 := (f11_orderTold σ x1 x2); (f11_isSeenSo_c8 s0 x1 x2 (fu1 ((Int32.toInt (f10_seens s0) - Int32.toInt (0 : Int32)).toNat)) (0 : Int32))
theorem w_f11_isSeenSo_c8 (x1 : Int32) (x2 : Int32) (σ : SI) (a : Nat) (h0 : a ≠ 36) (h1 : a ≠ 37) (h2 : a ≠ 38) : ∀ (fu : Nat) (v3 : Int32), (f11_isSeenSo_c8 σ x1 x2 fu v3).2 a = σ a := by
  intro fu
  induction fu with
  | zero => intro v3; exact rfl
  | succ fu ih =>
    intro v3
    refine fp_to2 ?_
    unfold f11_isSeenSo_c8
    exact (fr_ite2 (fr_mk21 rfl) (fr_ite2 (fr_ite2 (fp_of2 ((ih _))) (fr_mk21 rfl)) (fr_ite2 (fp_of2 ((ih _))) (fr_mk21 rfl))))
theorem w_f11_isSeenSo (σ : SI) (x1 : Int32) (x2 : Int32) (a : Nat) (h0 : a ≠ 36) (h1 : a ≠ 37) (h2 : a ≠ 38) : (f11_isSeenSo σ x1 x2).2 a = σ a := by
  refine fp_to2 ?_
  unfold f11_isSeenSo
  exact (fp_of2 (((w_f11_isSeenSo_c8 _ _ _ a h0 h1 h2 _ _).trans (w_f11_orderTold _ _ _ a h0 h1 h2))))
set_option maxHeartbeats 4000000 in
set_option maxRecDepth 100000 in
theorem c11_isSeenSo_c8 {l : Launch} {p : Program} {e : Env} {s : State} {m : MethodId} {args : Array Value} {below : List Frame} {meth : Method} {c : Code} {G : GT} (X : CX p s m args meth c cX11_isSeenSo RX11 5 (some .boolean) G) {E : Bool × SI} (σ : SI) (τ : SL) (x1 : Int32) (x2 : Int32) : ∀ (fu : Nat) (v3 : Int32) (H : Heap) (locs : List Loc) (ls : Array Slot), IX G s H locs σ τ → lv_has ls 5 [(0, .ref (G.2.1 0)), (1, .int x1), (2, .int x2), (3, .int v3)] → (Int32.toInt (f10_seens σ) - Int32.toInt v3).toNat < fu → E = (f11_isSeenSo_c8 σ x1 x2 fu v3) → W p l e (rmN 3) s m args below meth c H locs 0 0 (MQ below ((Qi G (Ei (b2i E.1) E.2 τ)) s.heap.size) args s 0 0 (AW G s.heap.size)) (F0 m 8 ls []) := by
  intro fu
  induction fu with
  | zero =>
    intro v3 H locs ls I hl  hm hE
    exact absurd hm (Nat.not_lt_zero _)
  | succ fu ih =>
    intro v3 H locs ls I hl  hm hE
    refine lv_iload_n X.1 X.2.1 dX11_isSeenSo_8 rfl (lv_at hl 3 rfl) ?_
    refine lv_aload_n X.1 X.2.1 dX11_isSeenSo_9 rfl (lv_at hl 0 rfl) ?_
    refine g11_8 X I (k := 0) (by decide) rfl lf_X11_72 dX11_isSeenSo_10 ?_
    refine r_ei I (r_runV X I pk_X10_seens (c10_seens l G _ _) lm_X11_420 (by decide) (cl_10 rfl) rfl rfl rfl hl.1 rfl (Nat.le_of_ble_eq_true rfl) dX11_isSeenSo_13 ⟨Nat.le_of_ble_eq_true rfl, Nat.le_of_ble_eq_true rfl⟩ ⟨Nat.le_refl 0, Nat.le_refl 0⟩) (fun H locs I => ?_)
    refine lv_icmp_ge (tgt := 73) X.1 X.2.1 dX11_isSeenSo_16 (by decide) (fun c_1 => ?_) (fun c_1 => ?_)
    · skip
      have hE := ite_t hE c_1
      refine lv_iconst (v := 1) X.1 X.2.1 dX11_isSeenSo_73 (by decide) ?_
      have h9 := hE
      exact r_zret X I rfl (e_i (congrArg b2i (pr_fst (a := true) h9)) (pr_snd h9) rfl) dX11_isSeenSo_74
    · skip
      have hE := ite_f hE c_1
      refine lv_aload_n X.1 X.2.1 dX11_isSeenSo_19 rfl (lv_at hl 0 rfl) ?_
      refine g11_9 X I (k := 0) (by decide) rfl lf_X11_79 dX11_isSeenSo_20 ?_
      refine lv_aload_n X.1 X.2.1 dX11_isSeenSo_23 rfl (lv_at hl 0 rfl) ?_
      refine g11_8 X I (k := 0) (by decide) rfl lf_X11_72 dX11_isSeenSo_24 ?_
      refine lv_iload_n X.1 X.2.1 dX11_isSeenSo_27 rfl (lv_at hl 3 rfl) ?_
      refine r_ei I (r_runV X I pk_X10_seenPlace (c10_seenPlace l G _ _ _) lm_X11_423 (by decide) (cl_10 rfl) rfl rfl rfl hl.1 rfl (Nat.le_of_ble_eq_true rfl) dX11_isSeenSo_28 ⟨Nat.le_of_ble_eq_true rfl, Nat.le_of_ble_eq_true rfl⟩ ⟨Nat.le_refl 0, Nat.le_refl 0⟩) (fun H locs I => ?_)
      refine r_ei I (r_runV X I pk_X6_houseAt (c6_houseAt l G _ _ _) lm_X11_333 (by decide) (cl_6 rfl) rfl rfl rfl hl.1 rfl (Nat.le_of_ble_eq_true rfl) dX11_isSeenSo_31 ⟨Nat.le_of_ble_eq_true rfl, Nat.le_of_ble_eq_true rfl⟩ ⟨Nat.le_refl 0, Nat.le_refl 0⟩) (fun H locs I => ?_)
      refine lv_aload_n X.1 X.2.1 dX11_isSeenSo_34 rfl (lv_at hl 0 rfl) ?_
      refine g11_8 X I (k := 0) (by decide) rfl lf_X11_72 dX11_isSeenSo_35 ?_
      refine lv_iload_n X.1 X.2.1 dX11_isSeenSo_38 rfl (lv_at hl 3 rfl) ?_
      refine r_ei I (r_runV X I pk_X10_seenHouse (c10_seenHouse l G _ _ _) lm_X11_426 (by decide) (cl_10 rfl) rfl rfl rfl hl.1 rfl (Nat.le_of_ble_eq_true rfl) dX11_isSeenSo_39 ⟨Nat.le_of_ble_eq_true rfl, Nat.le_of_ble_eq_true rfl⟩ ⟨Nat.le_refl 0, Nat.le_refl 0⟩) (fun H locs I => ?_)
      refine lv_icmp_ne (tgt := 49) X.1 X.2.1 dX11_isSeenSo_42 (by decide) (fun c_2 => ?_) (fun c_2 => ?_)
      · skip
        have hE := ite_f hE c_2
        refine lv_iconst (v := 0) X.1 X.2.1 dX11_isSeenSo_49 (by decide) ?_
        refine lv_istore (lv' := [(4, .int _), (0, .ref _), (1, .int _), (2, .int _), (3, .int _)]) X.1 X.2.1 dX11_isSeenSo_50 hl (by decide) rfl (fun ls hl => ?_)
        refine lv_iload X.1 X.2.1 dX11_isSeenSo_52 (lv_at hl 0 rfl) ?_
        refine lv_aload_n X.1 X.2.1 dX11_isSeenSo_54 rfl (lv_at hl 1 rfl) ?_
        refine g11_8 X I (k := 0) (by decide) rfl lf_X11_72 dX11_isSeenSo_55 ?_
        refine lv_iload_n X.1 X.2.1 dX11_isSeenSo_58 rfl (lv_at hl 4 rfl) ?_
        refine r_ei I (r_runV X I pk_X10_seenIs (c10_seenIs l G _ _ _) lm_X11_429 (by decide) (cl_10 rfl) rfl rfl rfl hl.1 rfl (Nat.le_of_ble_eq_true rfl) dX11_isSeenSo_59 ⟨Nat.le_of_ble_eq_true rfl, Nat.le_of_ble_eq_true rfl⟩ ⟨Nat.le_refl 0, Nat.le_refl 0⟩) (fun H locs I => ?_)
        refine lv_icmp_eq (tgt := 67) X.1 X.2.1 dX11_isSeenSo_62 (by decide) (fun c_3 => ?_) (fun c_3 => ?_)
        · skip
          have hE := ite_t hE c_3
          refine lv_iinc (v := _ + 1) (lv' := [(3, .int _), (4, .int _), (0, .ref _), (1, .int _), (2, .int _)]) X.1 X.2.1 dX11_isSeenSo_67 hl (k := 4) rfl rfl (by decide) rfl (fun ls hl => ?_)
          refine lv_goto (tgt := 8) X.1 X.2.1 dX11_isSeenSo_70 (by decide) ?_
          exact ih _ _ _ _ I (lv_sub hl [2, 3, 4, 0] rfl) (Nat.lt_of_lt_of_le (up_dec c_1) (Nat.le_of_lt_succ hm)) (hE.trans (rfl))
        · skip
          have hE := ite_f hE c_3
          refine lv_iconst (v := 0) X.1 X.2.1 dX11_isSeenSo_65 (by decide) ?_
          have h9 := hE
          exact r_zret X I rfl (e_i (congrArg b2i (pr_fst (a := false) h9)) (pr_snd h9) rfl) dX11_isSeenSo_66
      · skip
        have hE := ite_t hE c_2
        refine lv_iconst (v := 1) X.1 X.2.1 dX11_isSeenSo_45 (by decide) ?_
        refine lv_goto (tgt := 50) X.1 X.2.1 dX11_isSeenSo_46 (by decide) ?_
        refine lv_istore (lv' := [(4, .int _), (0, .ref _), (1, .int _), (2, .int _), (3, .int _)]) X.1 X.2.1 dX11_isSeenSo_50 hl (by decide) rfl (fun ls hl => ?_)
        refine lv_iload X.1 X.2.1 dX11_isSeenSo_52 (lv_at hl 0 rfl) ?_
        refine lv_aload_n X.1 X.2.1 dX11_isSeenSo_54 rfl (lv_at hl 1 rfl) ?_
        refine g11_8 X I (k := 0) (by decide) rfl lf_X11_72 dX11_isSeenSo_55 ?_
        refine lv_iload_n X.1 X.2.1 dX11_isSeenSo_58 rfl (lv_at hl 4 rfl) ?_
        refine r_ei I (r_runV X I pk_X10_seenIs (c10_seenIs l G _ _ _) lm_X11_429 (by decide) (cl_10 rfl) rfl rfl rfl hl.1 rfl (Nat.le_of_ble_eq_true rfl) dX11_isSeenSo_59 ⟨Nat.le_of_ble_eq_true rfl, Nat.le_of_ble_eq_true rfl⟩ ⟨Nat.le_refl 0, Nat.le_refl 0⟩) (fun H locs I => ?_)
        refine lv_icmp_eq (tgt := 67) X.1 X.2.1 dX11_isSeenSo_62 (by decide) (fun c_4 => ?_) (fun c_4 => ?_)
        · skip
          have hE := ite_t hE c_4
          refine lv_iinc (v := _ + 1) (lv' := [(3, .int _), (4, .int _), (0, .ref _), (1, .int _), (2, .int _)]) X.1 X.2.1 dX11_isSeenSo_67 hl (k := 4) rfl rfl (by decide) rfl (fun ls hl => ?_)
          refine lv_goto (tgt := 8) X.1 X.2.1 dX11_isSeenSo_70 (by decide) ?_
          exact ih _ _ _ _ I (lv_sub hl [2, 3, 4, 0] rfl) (Nat.lt_of_lt_of_le (up_dec c_1) (Nat.le_of_lt_succ hm)) (hE.trans (rfl))
        · skip
          have hE := ite_f hE c_4
          refine lv_iconst (v := 0) X.1 X.2.1 dX11_isSeenSo_65 (by decide) ?_
          have h9 := hE
          exact r_zret X I rfl (e_i (congrArg b2i (pr_fst (a := false) h9)) (pr_snd h9) rfl) dX11_isSeenSo_66
set_option maxHeartbeats 4000000 in
set_option maxRecDepth 100000 in
theorem c11_isSeenSo (l : Launch) (G : GT) (σ : SI) (τ : SL) (x1 : Int32) (x2 : Int32) : Mc l yX11_isSeenSo cX11_isSeenSo 5 (some .boolean) 3 G [.ref (G.2.1 0), .int x1, .int x2] σ τ (Qi G (Ei (b2i (f11_isSeenSo σ x1 x2).1) (f11_isSeenSo σ x1 x2).2 τ)) := by
  refine m_start (by decide +kernel) (Nat.le_of_ble_eq_true rfl) rfl (fun p e s m args below meth c ls X I hl => ?_)
  have hl : lv_has ls 5 [(0, .ref (G.2.1 0)), (1, .int x1), (2, .int x2)] := hl
  obtain ⟨E, hE⟩ : ∃ E, E = (f11_isSeenSo σ x1 x2) := ⟨_, rfl⟩
  rw [← hE]
  refine lv_aload_n X.1 X.2.1 dX11_isSeenSo_0 rfl (lv_at hl 0 rfl) ?_
  refine lv_iload_n X.1 X.2.1 dX11_isSeenSo_1 rfl (lv_at hl 1 rfl) ?_
  refine lv_iload_n X.1 X.2.1 dX11_isSeenSo_2 rfl (lv_at hl 2 rfl) ?_
  refine r_ev I (r_runV X I pk_X11_orderTold (c11_orderTold l G _ _ _ _) lm_X11_417 (by decide) (cl_11 rfl) rfl rfl rfl hl.1 rfl (Nat.le_of_ble_eq_true rfl) dX11_isSeenSo_3 ⟨Nat.le_of_ble_eq_true rfl, Nat.le_of_ble_eq_true rfl⟩ ⟨Nat.le_refl 0, Nat.le_refl 0⟩) (fun H locs I => ?_)
  refine lv_iconst (v := 0) X.1 X.2.1 dX11_isSeenSo_6 (by decide) ?_
  refine lv_istore_n (lv' := [(3, .int _), (0, .ref _), (1, .int _), (2, .int _)]) X.1 X.2.1 dX11_isSeenSo_7 rfl hl (by decide) rfl (fun ls hl => ?_)
  exact c11_isSeenSo_c8 X _ _ _ _ _ _ _ _ _ I (lv_sub hl [1, 2, 3, 0] rfl) (fu1_lt _) (hE.trans (rfl))
