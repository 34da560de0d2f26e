noncomputable def f11_stood (σ : SI) (x1 : Int32) (x2 : Int32) (x3 : Int32) : Int32 × SI := if (f8_isHouse 10 σ x1) = true then (if x2 < (0 : Int32) then ((-1 : Int32), σ) else (if (99 : Int32) < x2 then ((-1 : Int32), σ) else (if x3 < (0 : Int32) then ((-1 : Int32), σ) else (if x3 ≤ (60 : Int32) then (let r0 := (f10_tellStood σ x1 x2 x3); r0) else ((-1 : Int32), σ))))) else ((-1 : Int32), σ)
theorem w_f11_stood (σ : SI) (x1 : Int32) (x2 : Int32) (x3 : Int32) (a : Nat) (h0 : a ≠ 33) (h1 : a ≠ 34) : (f11_stood σ x1 x2 x3).2 a = σ a := by
  refine fp_to2 ?_
  unfold f11_stood
  exact (fr_ite2 (fr_ite2 (fr_mk21 rfl) (fr_ite2 (fr_mk21 rfl) (fr_ite2 (fr_mk21 rfl) (fr_ite2 (w_f10_tellStood _ _ _ _ a h0 h1) (fr_mk21 rfl))))) (fr_mk21 rfl))
set_option maxHeartbeats 4000000 in
set_option maxRecDepth 100000 in
theorem c11_stood (l : Launch) (G : GT) (σ : SI) (τ : SL) (x1 : Int32) (x2 : Int32) (x3 : Int32) : Mc l yX11_stood cX11_stood 4 (some .int) 3 G [.ref (G.2.1 0), .int x1, .int x2, .int x3] σ τ (Qi G (Ei (f11_stood σ x1 x2 x3).1 (f11_stood σ x1 x2 x3).2 τ)) := by
  refine m_start (by decide +kernel) (Nat.le_of_ble_eq_true rfl) rfl (fun p e s m args below meth c ls X I hl => ?_)
  have hl : lv_has ls 4 [(0, .ref (G.2.1 0)), (1, .int x1), (2, .int x2), (3, .int x3)] := hl
  obtain ⟨E, hE⟩ : ∃ E, E = (f11_stood σ x1 x2 x3) := ⟨_, rfl⟩
  rw [← hE]
  refine lv_aload_n X.1 X.2.1 dX11_stood_0 rfl (lv_at hl 0 rfl) ?_
  refine g11_3 X I (k := 0) (by decide) rfl lf_X11_35 dX11_stood_1 ?_
  refine lv_iload_n X.1 X.2.1 dX11_stood_4 rfl (lv_at hl 1 rfl) ?_
  refine r_ei I (r_runV X I pk_X8_isHouse (c8_isHouse l G (k := 10) ⟨by decide, rfl, rfl, rfl⟩ _ _ _) lm_X11_169 (by decide) (cl_8 rfl) rfl rfl rfl hl.1 rfl (Nat.le_of_ble_eq_true rfl) dX11_stood_5 ⟨Nat.le_of_ble_eq_true rfl, Nat.le_of_ble_eq_true rfl⟩ ⟨Nat.le_refl 0, Nat.le_refl 0⟩) (fun H locs I => ?_)
  refine lv_if_eq (tgt := 31) X.1 X.2.1 dX11_stood_8 (by decide) (fun c_1 => ?_) (fun c_1 => ?_)
  · skip
    have hE := ite_f hE (b2i_n c_1)
    refine lv_iconst (v := (-1)) X.1 X.2.1 dX11_stood_31 (by decide) ?_
    have h9 := hE
    exact r_iret X I (e_i (pr_fst h9) (pr_snd h9) rfl) dX11_stood_32
  · skip
    have hE := ite_t hE (b2i_y c_1)
    refine lv_iload_n X.1 X.2.1 dX11_stood_11 rfl (lv_at hl 2 rfl) ?_
    refine lv_if_lt (tgt := 31) X.1 X.2.1 dX11_stood_12 (by decide) (fun c_2 => ?_) (fun c_2 => ?_)
    · skip
      have hE := ite_t hE c_2
      refine lv_iconst (v := (-1)) X.1 X.2.1 dX11_stood_31 (by decide) ?_
      have h9 := hE
      exact r_iret X I (e_i (pr_fst h9) (pr_snd h9) rfl) dX11_stood_32
    · skip
      have hE := ite_f hE c_2
      refine lv_iload_n X.1 X.2.1 dX11_stood_15 rfl (lv_at hl 2 rfl) ?_
      refine lv_bipush (v := 99) X.1 X.2.1 dX11_stood_16 (by decide) ?_
      refine lv_icmp_gt (tgt := 31) X.1 X.2.1 dX11_stood_18 (by decide) (fun c_3 => ?_) (fun c_3 => ?_)
      · skip
        have hE := ite_t hE c_3
        refine lv_iconst (v := (-1)) X.1 X.2.1 dX11_stood_31 (by decide) ?_
        have h9 := hE
        exact r_iret X I (e_i (pr_fst h9) (pr_snd h9) rfl) dX11_stood_32
      · skip
        have hE := ite_f hE c_3
        refine lv_iload_n X.1 X.2.1 dX11_stood_21 rfl (lv_at hl 3 rfl) ?_
        refine lv_if_lt (tgt := 31) X.1 X.2.1 dX11_stood_22 (by decide) (fun c_4 => ?_) (fun c_4 => ?_)
        · skip
          have hE := ite_t hE c_4
          refine lv_iconst (v := (-1)) X.1 X.2.1 dX11_stood_31 (by decide) ?_
          have h9 := hE
          exact r_iret X I (e_i (pr_fst h9) (pr_snd h9) rfl) dX11_stood_32
        · skip
          have hE := ite_f hE c_4
          refine lv_iload_n X.1 X.2.1 dX11_stood_25 rfl (lv_at hl 3 rfl) ?_
          refine lv_bipush (v := 60) X.1 X.2.1 dX11_stood_26 (by decide) ?_
          refine lv_icmp_le (tgt := 33) X.1 X.2.1 dX11_stood_28 (by decide) (fun c_5 => ?_) (fun c_5 => ?_)
          · skip
            have hE := ite_t hE c_5
            refine lv_aload_n X.1 X.2.1 dX11_stood_33 rfl (lv_at hl 0 rfl) ?_
            refine g11_8 X I (k := 0) (by decide) rfl lf_X11_72 dX11_stood_34 ?_
            refine lv_iload_n X.1 X.2.1 dX11_stood_37 rfl (lv_at hl 1 rfl) ?_
            refine lv_iload_n X.1 X.2.1 dX11_stood_38 rfl (lv_at hl 2 rfl) ?_
            refine lv_iload_n X.1 X.2.1 dX11_stood_39 rfl (lv_at hl 3 rfl) ?_
            refine r_ei I (r_runV X I pk_X10_tellStood (c10_tellStood l G _ _ _ _ _) lm_X11_354 (by decide) (cl_10 rfl) rfl rfl rfl hl.1 rfl (Nat.le_of_ble_eq_true rfl) dX11_stood_40 ⟨Nat.le_of_ble_eq_true rfl, Nat.le_of_ble_eq_true rfl⟩ ⟨Nat.le_refl 0, Nat.le_refl 0⟩) (fun H locs I => ?_)
            have h9 := hE
            exact r_iret X I (e_i (congrArg Prod.fst h9).symm (congrArg Prod.snd h9).symm rfl) dX11_stood_43
          · skip
            have hE := ite_f hE c_5
            refine lv_iconst (v := (-1)) X.1 X.2.1 dX11_stood_31 (by decide) ?_
            have h9 := hE
            exact r_iret X I (e_i (pr_fst h9) (pr_snd h9) rfl) dX11_stood_32
noncomputable def f11_standsFirst (σ : SI) (x1 : Int32) (x2 : Int32) (x3 : Int32) : Int32 × SI := let r0 := (f2_standing σ x2 (f8_isThankful 10 σ x1) x3 (0 : Int32) (f8_distance 10 σ (-1 : Int32) x1) (σ 24 6)); r0
theorem w_f11_standsFirst (σ : SI) (x1 : Int32) (x2 : Int32) (x3 : Int32) (a : Nat) (h0 : a ≠ 13) (h1 : a ≠ 15) : (f11_standsFirst σ x1 x2 x3).2 a = σ a := by
  refine fp_to2 ?_
  unfold f11_standsFirst
  exact (w_f2_standing _ _ _ _ _ _ _ a h0 h1)
set_option maxHeartbeats 4000000 in
set_option maxRecDepth 100000 in
theorem c11_standsFirst (l : Launch) (G : GT) (σ : SI) (τ : SL) (x1 : Int32) (x2 : Int32) (x3 : Int32) : Mc l yX11_standsFirst cX11_standsFirst 4 (some .int) 4 G [.ref (G.2.1 0), .int x1, .int x2, .int x3] σ τ (Qi G (Ei (f11_standsFirst σ x1 x2 x3).1 (f11_standsFirst σ x1 x2 x3).2 τ)) := by
  refine m_start (by decide +kernel) (Nat.le_of_ble_eq_true rfl) rfl (fun p e s m args below meth c ls X I hl => ?_)
  have hl : lv_has ls 4 [(0, .ref (G.2.1 0)), (1, .int x1), (2, .int x2), (3, .int x3)] := hl
  obtain ⟨E, hE⟩ : ∃ E, E = (f11_standsFirst σ x1 x2 x3) := ⟨_, rfl⟩
  rw [← hE]
  refine lv_aload_n X.1 X.2.1 dX11_standsFirst_0 rfl (lv_at hl 0 rfl) ?_
  refine g11_4 X I (k := 0) (by decide) rfl lf_X11_42 dX11_standsFirst_1 ?_
  refine lv_iload_n X.1 X.2.1 dX11_standsFirst_4 rfl (lv_at hl 2 rfl) ?_
  refine lv_aload_n X.1 X.2.1 dX11_standsFirst_5 rfl (lv_at hl 0 rfl) ?_
  refine g11_3 X I (k := 0) (by decide) rfl lf_X11_35 dX11_standsFirst_6 ?_
  refine lv_iload_n X.1 X.2.1 dX11_standsFirst_9 rfl (lv_at hl 1 rfl) ?_
  refine r_ei I (r_runV X I pk_X8_isThankful (c8_isThankful l G (k := 10) ⟨by decide, rfl, rfl, rfl⟩ _ _ _) lm_X11_185 (by decide) (cl_8 rfl) rfl rfl rfl hl.1 rfl (Nat.le_of_ble_eq_true rfl) dX11_standsFirst_10 ⟨Nat.le_of_ble_eq_true rfl, Nat.le_of_ble_eq_true rfl⟩ ⟨Nat.le_refl 0, Nat.le_refl 0⟩) (fun H locs I => ?_)
  refine lv_iload_n X.1 X.2.1 dX11_standsFirst_13 rfl (lv_at hl 3 rfl) ?_
  refine lv_iconst (v := 0) X.1 X.2.1 dX11_standsFirst_14 (by decide) ?_
  refine lv_aload_n X.1 X.2.1 dX11_standsFirst_15 rfl (lv_at hl 0 rfl) ?_
  refine g11_3 X I (k := 0) (by decide) rfl lf_X11_35 dX11_standsFirst_16 ?_
  refine lv_iconst (v := (-1)) X.1 X.2.1 dX11_standsFirst_19 (by decide) ?_
  refine lv_iload_n X.1 X.2.1 dX11_standsFirst_20 rfl (lv_at hl 1 rfl) ?_
  refine r_ei I (r_runV X I pk_X8_distance (c8_distance l G (k := 10) ⟨by decide, rfl, rfl, rfl⟩ _ _ _ _) lm_X11_203 (by decide) (cl_8 rfl) rfl rfl rfl hl.1 rfl (Nat.le_of_ble_eq_true rfl) dX11_standsFirst_21 ⟨Nat.le_of_ble_eq_true rfl, Nat.le_of_ble_eq_true rfl⟩ ⟨Nat.le_refl 0, Nat.le_refl 0⟩) (fun H locs I => ?_)
  refine lv_aload_n X.1 X.2.1 dX11_standsFirst_24 rfl (lv_at hl 0 rfl) ?_
  refine g11_5 X I (k := 0) (by decide) rfl lf_X11_49 dX11_standsFirst_25 ?_
  refine g0_6 X I (k := 24) (by decide) rfl lf_X11_219 dX11_standsFirst_28 ?_
  refine r_ei I (r_runV X I pk_X2_standing (c2_standing l G _ _ _ _ _ _ _ _) lm_X11_222 (by decide) (cl_2 rfl) rfl rfl rfl hl.1 rfl (Nat.le_of_ble_eq_true rfl) dX11_standsFirst_31 ⟨Nat.le_of_ble_eq_true rfl, Nat.le_of_ble_eq_true rfl⟩ ⟨Nat.le_refl 0, Nat.le_refl 0⟩) (fun H locs I => ?_)
  have h9 := hE
  exact r_iret X I (e_i (congrArg Prod.fst h9).symm (congrArg Prod.snd h9).symm rfl) dX11_standsFirst_34
noncomputable def f11_isFitting_c2 (x1 : Int32) (x2 : Int32) : Nat → Int32 → SI → (Bool × SI)
  | 0, _, σ => (false, σ)
  | fu + 1, v3, σ => if (f10_stoods σ) ≤ v3 then (true, σ) else (if (f10_stoodHouse σ v3) = x1 then (let r0 := (f11_standsFirst σ x1 x2 (f10_stoodTime σ v3)); if r0.1 = (f10_stoodLong r0.2 v3) then (f11_isFitting_c2 x1 x2 fu (v3 + 1) r0.2) else (false, r0.2)) else (f11_isFitting_c2 x1 x2 fu (v3 + 1) σ))
noncomputable def f11_isFitting (σ : SI) (x1 : Int32) (x2 : Int32) : Bool × SI := (f11_isFitting_c2 x1 x2 (fu1 ((Int32.toInt (f10_stoods σ) - Int32.toInt (0 : Int32)).toNat)) (0 : Int32) σ)
theorem w_f11_isFitting_c2 (x1 : Int32) (x2 : Int32) (a : Nat) (h0 : a ≠ 13) (h1 : a ≠ 15) : ∀ (fu : Nat) (v3 : Int32) (σ : SI), (f11_isFitting_c2 x1 x2 fu v3 σ).2 a = σ a := by
  intro fu
  induction fu with
  | zero => intro v3 σ; exact rfl
  | succ fu ih =>
    intro v3 σ
    refine fp_to2 ?_
    unfold f11_isFitting_c2
    exact (fr_ite2 (fr_mk21 rfl) (fr_ite2 (fr_ite2 (fp_of2 (((ih _ _).trans (w_f11_standsFirst _ _ _ _ a h0 h1)))) (fr_mk21 (w_f11_standsFirst _ _ _ _ a h0 h1))) (fp_of2 ((ih _ _)))))
theorem w_f11_isFitting (σ : SI) (x1 : Int32) (x2 : Int32) (a : Nat) (h0 : a ≠ 13) (h1 : a ≠ 15) : (f11_isFitting σ x1 x2).2 a = σ a := by
  refine fp_to2 ?_
  unfold f11_isFitting
  exact (fp_of2 ((w_f11_isFitting_c2 _ _ a h0 h1 _ _ _)))
set_option maxHeartbeats 4000000 in
set_option maxRecDepth 100000 in
theorem c11_isFitting_c2 {l : Launch} {p : Program} {e : Env} {s : State} {m : MethodId} {args : Array Value} {below : List Frame} {meth : Method} {c : Code} {G : GT} (X : CX p s m args meth c cX11_isFitting RX11 4 (some .boolean) G) {E : Bool × SI} (τ : SL) (x1 : Int32) (x2 : Int32) : ∀ (fu : Nat) (v3 : Int32) (σ : SI) (H : Heap) (locs : List Loc) (ls : Array Slot), IX G s H locs σ τ → lv_has ls 4 [(0, .ref (G.2.1 0)), (1, .int x1), (2, .int x2), (3, .int v3)] → (Int32.toInt (f10_stoods σ) - Int32.toInt v3).toNat < fu → E = (f11_isFitting_c2 x1 x2 fu v3 σ) → W p l e (rmN 5) s m args below meth c H locs 0 0 (MQ below ((Qi G (Ei (b2i E.1) E.2 τ)) s.heap.size) args s 0 0 (AW G s.heap.size)) (F0 m 2 ls []) := by
  intro fu
  induction fu with
  | zero =>
    intro v3 σ H locs ls I hl  hm hE
    exact absurd hm (Nat.not_lt_zero _)
  | succ fu ih =>
    intro v3 σ H locs ls I hl  hm hE
    refine lv_iload_n X.1 X.2.1 dX11_isFitting_2 rfl (lv_at hl 3 rfl) ?_
    refine lv_aload_n X.1 X.2.1 dX11_isFitting_3 rfl (lv_at hl 0 rfl) ?_
    refine g11_8 X I (k := 0) (by decide) rfl lf_X11_72 dX11_isFitting_4 ?_
    refine r_ei I (r_runV X I pk_X10_stoods (c10_stoods l G _ _) lm_X11_361 (by decide) (cl_10 rfl) rfl rfl rfl hl.1 rfl (Nat.le_of_ble_eq_true rfl) dX11_isFitting_7 ⟨Nat.le_of_ble_eq_true rfl, Nat.le_of_ble_eq_true rfl⟩ ⟨Nat.le_refl 0, Nat.le_refl 0⟩) (fun H locs I => ?_)
    refine lv_icmp_ge (tgt := 58) X.1 X.2.1 dX11_isFitting_10 (by decide) (fun c_1 => ?_) (fun c_1 => ?_)
    · skip
      have hE := ite_t hE c_1
      refine lv_iconst (v := 1) X.1 X.2.1 dX11_isFitting_58 (by decide) ?_
      have h9 := hE
      exact r_zret X I rfl (e_i (congrArg b2i (pr_fst (a := true) h9)) (pr_snd h9) rfl) dX11_isFitting_59
    · skip
      have hE := ite_f hE c_1
      refine lv_aload_n X.1 X.2.1 dX11_isFitting_13 rfl (lv_at hl 0 rfl) ?_
      refine g11_8 X I (k := 0) (by decide) rfl lf_X11_72 dX11_isFitting_14 ?_
      refine lv_iload_n X.1 X.2.1 dX11_isFitting_17 rfl (lv_at hl 3 rfl) ?_
      refine r_ei I (r_runV X I pk_X10_stoodHouse (c10_stoodHouse l G _ _ _) lm_X11_364 (by decide) (cl_10 rfl) rfl rfl rfl hl.1 rfl (Nat.le_of_ble_eq_true rfl) dX11_isFitting_18 ⟨Nat.le_of_ble_eq_true rfl, Nat.le_of_ble_eq_true rfl⟩ ⟨Nat.le_refl 0, Nat.le_refl 0⟩) (fun H locs I => ?_)
      refine lv_iload_n X.1 X.2.1 dX11_isFitting_21 rfl (lv_at hl 1 rfl) ?_
      refine lv_icmp_ne (tgt := 52) X.1 X.2.1 dX11_isFitting_22 (by decide) (fun c_2 => ?_) (fun c_2 => ?_)
      · skip
        have hE := ite_f hE c_2
        refine lv_iinc (v := _ + 1) (lv' := [(3, .int _), (0, .ref _), (1, .int _), (2, .int _)]) X.1 X.2.1 dX11_isFitting_52 hl (k := 3) rfl rfl (by decide) rfl (fun ls hl => ?_)
        refine lv_goto (tgt := 2) X.1 X.2.1 dX11_isFitting_55 (by decide) ?_
        exact ih _ _ _ _ _ I (lv_sub hl [1, 2, 3, 0] rfl) (Nat.lt_of_lt_of_le (dec_c (by first | with_reducible rfl | simp [f10_stoods, w_f11_standsFirst, sp_n]) (up_dec c_1)) (Nat.le_of_lt_succ hm)) (hE.trans (rfl))
      · skip
        have hE := ite_t hE c_2
        refine lv_aload_n X.1 X.2.1 dX11_isFitting_25 rfl (lv_at hl 0 rfl) ?_
        refine lv_iload_n X.1 X.2.1 dX11_isFitting_26 rfl (lv_at hl 1 rfl) ?_
        refine lv_iload_n X.1 X.2.1 dX11_isFitting_27 rfl (lv_at hl 2 rfl) ?_
        refine lv_aload_n X.1 X.2.1 dX11_isFitting_28 rfl (lv_at hl 0 rfl) ?_
        refine g11_8 X I (k := 0) (by decide) rfl lf_X11_72 dX11_isFitting_29 ?_
        refine lv_iload_n X.1 X.2.1 dX11_isFitting_32 rfl (lv_at hl 3 rfl) ?_
        refine r_ei I (r_runV X I pk_X10_stoodTime (c10_stoodTime l G _ _ _) lm_X11_367 (by decide) (cl_10 rfl) rfl rfl rfl hl.1 rfl (Nat.le_of_ble_eq_true rfl) dX11_isFitting_33 ⟨Nat.le_of_ble_eq_true rfl, Nat.le_of_ble_eq_true rfl⟩ ⟨Nat.le_refl 0, Nat.le_refl 0⟩) (fun H locs I => ?_)
        refine r_ei I (r_runV X I pk_X11_standsFirst (c11_standsFirst l G _ _ _ _ _) lm_X11_370 (by decide) (cl_11 rfl) rfl rfl rfl hl.1 rfl (Nat.le_of_ble_eq_true rfl) dX11_isFitting_36 ⟨Nat.le_of_ble_eq_true rfl, Nat.le_of_ble_eq_true rfl⟩ ⟨Nat.le_refl 0, Nat.le_refl 0⟩) (fun H locs I => ?_)
        refine lv_aload_n X.1 X.2.1 dX11_isFitting_39 rfl (lv_at hl 0 rfl) ?_
        refine g11_8 X I (k := 0) (by decide) rfl lf_X11_72 dX11_isFitting_40 ?_
        refine lv_iload_n X.1 X.2.1 dX11_isFitting_43 rfl (lv_at hl 3 rfl) ?_
        refine r_ei I (r_runV X I pk_X10_stoodLong (c10_stoodLong l G _ _ _) lm_X11_373 (by decide) (cl_10 rfl) rfl rfl rfl hl.1 rfl (Nat.le_of_ble_eq_true rfl) dX11_isFitting_44 ⟨Nat.le_of_ble_eq_true rfl, Nat.le_of_ble_eq_true rfl⟩ ⟨Nat.le_refl 0, Nat.le_refl 0⟩) (fun H locs I => ?_)
        refine lv_icmp_eq (tgt := 52) X.1 X.2.1 dX11_isFitting_47 (by decide) (fun c_3 => ?_) (fun c_3 => ?_)
        · skip
          have hE := ite_t hE c_3
          refine lv_iinc (v := _ + 1) (lv' := [(3, .int _), (0, .ref _), (1, .int _), (2, .int _)]) X.1 X.2.1 dX11_isFitting_52 hl (k := 3) rfl rfl (by decide) rfl (fun ls hl => ?_)
          refine lv_goto (tgt := 2) X.1 X.2.1 dX11_isFitting_55 (by decide) ?_
          exact ih _ _ _ _ _ I (lv_sub hl [1, 2, 3, 0] rfl) (Nat.lt_of_lt_of_le (dec_c (by first | with_reducible rfl | simp [f10_stoods, w_f11_standsFirst, sp_n]) (up_dec c_1)) (Nat.le_of_lt_succ hm)) (hE.trans (rfl))
        · skip
          have hE := ite_f hE c_3
          refine lv_iconst (v := 0) X.1 X.2.1 dX11_isFitting_50 (by decide) ?_
          have h9 := hE
          exact r_zret X I rfl (e_i (congrArg b2i (pr_fst (a := false) h9)) (pr_snd h9) rfl) dX11_isFitting_51
set_option maxHeartbeats 4000000 in
set_option maxRecDepth 100000 in
theorem c11_isFitting (l : Launch) (G : GT) (σ : SI) (τ : SL) (x1 : Int32) (x2 : Int32) : Mc l yX11_isFitting cX11_isFitting 4 (some .boolean) 5 G [.ref (G.2.1 0), .int x1, .int x2] σ τ (Qi G (Ei (b2i (f11_isFitting σ x1 x2).1) (f11_isFitting σ x1 x2).2 τ)) := by
  refine m_start (by decide +kernel) (Nat.le_of_ble_eq_true rfl) rfl (fun p e s m args below meth c ls X I hl => ?_)
  have hl : lv_has ls 4 [(0, .ref (G.2.1 0)), (1, .int x1), (2, .int x2)] := hl
  obtain ⟨E, hE⟩ : ∃ E, E = (f11_isFitting σ x1 x2) := ⟨_, rfl⟩
  rw [← hE]
  refine lv_iconst (v := 0) X.1 X.2.1 dX11_isFitting_0 (by decide) ?_
  refine lv_istore_n (lv' := [(3, .int _), (0, .ref _), (1, .int _), (2, .int _)]) X.1 X.2.1 dX11_isFitting_1 rfl hl (by decide) rfl (fun ls hl => ?_)
  exact c11_isFitting_c2 X _ _ _ _ _ _ _ _ _ I (lv_sub hl [1, 2, 3, 0] rfl) (fu1_lt _) (hE.trans (rfl))
noncomputable def f11_fits_c18 (x1 : Int32) (x2 : Int32) : Nat → Int32 → Int32 → SI → (Int32 × SI)
  | 0, _, _, σ => (0, σ)
  | fu + 1, v3, v4, σ => if (30 : Int32) < v4 then (if x2 = (-1 : Int32) then (v3, σ) else ((-1 : Int32), σ)) else (let r0 := (f11_isFitting σ x1 v4); if r0.1 = true then (if v3 = x2 then (v4, r0.2) else (f11_fits_c18 x1 x2 fu (v3 + 1) (v4 + 1) r0.2)) else (f11_fits_c18 x1 x2 fu v3 (v4 + 1) r0.2))
noncomputable def f11_fits (σ : SI) (x1 : Int32) (x2 : Int32) : Int32 × SI := if (f8_isHouse 10 σ x1) = true then (f11_fits_c18 x1 x2 (fu1 ((Int32.toInt (30 : Int32) + 1 - Int32.toInt (0 : Int32)).toNat)) (0 : Int32) (0 : Int32) σ) else ((-1 : Int32), σ)
theorem w_f11_fits_c18 (x1 : Int32) (x2 : Int32) (a : Nat) (h0 : a ≠ 13) (h1 : a ≠ 15) : ∀ (fu : Nat) (v3 : Int32) (v4 : Int32) (σ : SI), (f11_fits_c18 x1 x2 fu v3 v4 σ).2 a = σ a := by
  intro fu
  induction fu with
  | zero => intro v3 v4 σ; exact rfl
  | succ fu ih =>
    intro v3 v4 σ
    refine fp_to2 ?_
    unfold f11_fits_c18
    exact (fr_ite2 (fr_ite2 (fr_mk21 rfl) (fr_mk21 rfl)) (fr_ite2 (fr_ite2 (fr_mk21 (w_f11_isFitting _ _ _ a h0 h1)) (fp_of2 (((ih _ _ _).trans (w_f11_isFitting _ _ _ a h0 h1))))) (fp_of2 (((ih _ _ _).trans (w_f11_isFitting _ _ _ a h0 h1))))))
theorem w_f11_fits (σ : SI) (x1 : Int32) (x2 : Int32) (a : Nat) (h0 : a ≠ 13) (h1 : a ≠ 15) : (f11_fits σ x1 x2).2 a = σ a := by
  refine fp_to2 ?_
  unfold f11_fits
  exact (fr_ite2 (fp_of2 ((w_f11_fits_c18 _ _ a h0 h1 _ _ _ _))) (fr_mk21 rfl))
set_option maxHeartbeats 4000000 in
set_option maxRecDepth 100000 in
theorem c11_fits_c18 {l : Launch} {p : Program} {e : Env} {s : State} {m : MethodId} {args : Array Value} {below : List Frame} {meth : Method} {c : Code} {G : GT} (X : CX p s m args meth c cX11_fits RX11 5 (some .int) G) {E : Int32 × SI} (τ : SL) (x1 : Int32) (x2 : Int32) : ∀ (fu : Nat) (v3 : Int32) (v4 : Int32) (σ : SI) (H : Heap) (locs : List Loc) (ls : Array Slot), IX G s H locs σ τ → lv_has ls 5 [(0, .ref (G.2.1 0)), (1, .int x1), (2, .int x2), (3, .int v3), (4, .int v4)] → (Int32.toInt (30 : Int32) + 1 - Int32.toInt v4).toNat < fu → E = (f11_fits_c18 x1 x2 fu v3 v4 σ) → W p l e (rmN 6) s m args below meth c H locs 0 0 (MQ below ((Qi G (Ei E.1 E.2 τ)) s.heap.size) args s 0 0 (AW G s.heap.size)) (F0 m 18 ls []) := by
  intro fu
  induction fu with
  | zero =>
    intro v3 v4 σ H locs ls I hl  hm hE
    exact absurd hm (Nat.not_lt_zero _)
  | succ fu ih =>
    intro v3 v4 σ H locs ls I hl  hm hE
    refine lv_iload X.1 X.2.1 dX11_fits_18 (lv_at hl 4 rfl) ?_
    refine lv_bipush (v := 30) X.1 X.2.1 dX11_fits_20 (by decide) ?_
    refine lv_icmp_gt (tgt := 52) X.1 X.2.1 dX11_fits_22 (by decide) (fun c_2 => ?_) (fun c_2 => ?_)
    · skip
      have hE := ite_t hE c_2
      refine lv_iload_n X.1 X.2.1 dX11_fits_52 rfl (lv_at hl 2 rfl) ?_
      refine lv_iconst (v := (-1)) X.1 X.2.1 dX11_fits_53 (by decide) ?_
      refine lv_icmp_ne (tgt := 61) X.1 X.2.1 dX11_fits_54 (by decide) (fun c_3 => ?_) (fun c_3 => ?_)
      · skip
        have hE := ite_f hE c_3
        refine lv_iconst (v := (-1)) X.1 X.2.1 dX11_fits_61 (by decide) ?_
        have h9 := hE
        exact r_iret X I (e_i (pr_fst h9) (pr_snd h9) rfl) dX11_fits_62
      · skip
        have hE := ite_t hE c_3
        refine lv_iload_n X.1 X.2.1 dX11_fits_57 rfl (lv_at hl 3 rfl) ?_
        refine lv_goto (tgt := 62) X.1 X.2.1 dX11_fits_58 (by decide) ?_
        have h9 := hE
        exact r_iret X I (e_i (pr_fst h9) (pr_snd h9) rfl) dX11_fits_62
    · skip
      have hE := ite_f hE c_2
      refine lv_aload_n X.1 X.2.1 dX11_fits_25 rfl (lv_at hl 0 rfl) ?_
      refine lv_iload_n X.1 X.2.1 dX11_fits_26 rfl (lv_at hl 1 rfl) ?_
      refine lv_iload X.1 X.2.1 dX11_fits_27 (lv_at hl 4 rfl) ?_
      refine r_ei I (r_runV X I pk_X11_isFitting (c11_isFitting l G _ _ _ _) lm_X11_358 (by decide) (cl_11 rfl) rfl rfl rfl hl.1 rfl (Nat.le_of_ble_eq_true rfl) dX11_fits_29 ⟨Nat.le_of_ble_eq_true rfl, Nat.le_of_ble_eq_true rfl⟩ ⟨Nat.le_refl 0, Nat.le_refl 0⟩) (fun H locs I => ?_)
      refine lv_if_eq (tgt := 46) X.1 X.2.1 dX11_fits_32 (by decide) (fun c_4 => ?_) (fun c_4 => ?_)
      · skip
        have hE := ite_f hE (b2i_n c_4)
        refine lv_iinc (v := _ + 1) (lv' := [(4, .int _), (0, .ref _), (1, .int _), (2, .int _), (3, .int _)]) X.1 X.2.1 dX11_fits_46 hl (k := 4) rfl rfl (by decide) rfl (fun ls hl => ?_)
        refine lv_goto (tgt := 18) X.1 X.2.1 dX11_fits_49 (by decide) ?_
        exact ih _ _ _ _ _ _ I (lv_sub hl [1, 2, 3, 4, 0] rfl) (Nat.lt_of_lt_of_le (up_decE (by decide) c_2) (Nat.le_of_lt_succ hm)) (hE.trans (rfl))
      · skip
        have hE := ite_t hE (b2i_y c_4)
        refine lv_iload_n X.1 X.2.1 dX11_fits_35 rfl (lv_at hl 3 rfl) ?_
        refine lv_iload_n X.1 X.2.1 dX11_fits_36 rfl (lv_at hl 2 rfl) ?_
        refine lv_icmp_ne (tgt := 43) X.1 X.2.1 dX11_fits_37 (by decide) (fun c_5 => ?_) (fun c_5 => ?_)
        · skip
          have hE := ite_f hE c_5
          refine lv_iinc (v := _ + 1) (lv' := [(3, .int _), (0, .ref _), (1, .int _), (2, .int _), (4, .int _)]) X.1 X.2.1 dX11_fits_43 hl (k := 3) rfl rfl (by decide) rfl (fun ls hl => ?_)
          refine lv_iinc (v := _ + 1) (lv' := [(4, .int _), (3, .int _), (0, .ref _), (1, .int _), (2, .int _)]) X.1 X.2.1 dX11_fits_46 hl (k := 4) rfl rfl (by decide) rfl (fun ls hl => ?_)
          refine lv_goto (tgt := 18) X.1 X.2.1 dX11_fits_49 (by decide) ?_
          exact ih _ _ _ _ _ _ I (lv_sub hl [2, 3, 4, 1, 0] rfl) (Nat.lt_of_lt_of_le (up_decE (by decide) c_2) (Nat.le_of_lt_succ hm)) (hE.trans (rfl))
        · skip
          have hE := ite_t hE c_5
          refine lv_iload X.1 X.2.1 dX11_fits_40 (lv_at hl 4 rfl) ?_
          have h9 := hE
          exact r_iret X I (e_i (pr_fst h9) (pr_snd h9) rfl) dX11_fits_42
set_option maxHeartbeats 4000000 in
set_option maxRecDepth 100000 in
theorem c11_fits (l : Launch) (G : GT) (σ : SI) (τ : SL) (x1 : Int32) (x2 : Int32) : Mc l yX11_fits cX11_fits 5 (some .int) 6 G [.ref (G.2.1 0), .int x1, .int x2] σ τ (Qi G (Ei (f11_fits σ x1 x2).1 (f11_fits σ x1 x2).2 τ)) := by
  refine m_start (by decide +kernel) (Nat.le_of_ble_eq_true rfl) rfl (fun p e s m args below meth c ls X I hl => ?_)
  have hl : lv_has ls 5 [(0, .ref (G.2.1 0)), (1, .int x1), (2, .int x2)] := hl
  obtain ⟨E, hE⟩ : ∃ E, E = (f11_fits σ x1 x2) := ⟨_, rfl⟩
  rw [← hE]
  refine lv_aload_n X.1 X.2.1 dX11_fits_0 rfl (lv_at hl 0 rfl) ?_
  refine g11_3 X I (k := 0) (by decide) rfl lf_X11_35 dX11_fits_1 ?_
  refine lv_iload_n X.1 X.2.1 dX11_fits_4 rfl (lv_at hl 1 rfl) ?_
  refine r_ei I (r_runV X I pk_X8_isHouse (c8_isHouse l G (k := 10) ⟨by decide, rfl, rfl, rfl⟩ _ _ _) lm_X11_169 (by decide) (cl_8 rfl) rfl rfl rfl hl.1 rfl (Nat.le_of_ble_eq_true rfl) dX11_fits_5 ⟨Nat.le_of_ble_eq_true rfl, Nat.le_of_ble_eq_true rfl⟩ ⟨Nat.le_refl 0, Nat.le_refl 0⟩) (fun H locs I => ?_)
  refine lv_if_ne (tgt := 13) X.1 X.2.1 dX11_fits_8 (by decide) (fun c_1 => ?_) (fun c_1 => ?_)
  · skip
    have hE := ite_t hE (b2i_y c_1)
    refine lv_iconst (v := 0) X.1 X.2.1 dX11_fits_13 (by decide) ?_
    refine lv_istore_n (lv' := [(3, .int _), (0, .ref _), (1, .int _), (2, .int _)]) X.1 X.2.1 dX11_fits_14 rfl hl (by decide) rfl (fun ls hl => ?_)
    refine lv_iconst (v := 0) X.1 X.2.1 dX11_fits_15 (by decide) ?_
    refine lv_istore (lv' := [(4, .int _), (3, .int _), (0, .ref _), (1, .int _), (2, .int _)]) X.1 X.2.1 dX11_fits_16 hl (by decide) rfl (fun ls hl => ?_)
    exact c11_fits_c18 X _ _ _ _ _ _ _ _ _ _ I (lv_sub hl [2, 3, 4, 1, 0] rfl) (fu1_lt _) (hE.trans (rfl))
  · skip
    have hE := ite_f hE (b2i_n c_1)
    refine lv_iconst (v := (-1)) X.1 X.2.1 dX11_fits_11 (by decide) ?_
    have h9 := hE
    exact r_iret X I (e_i (pr_fst h9) (pr_snd h9) rfl) dX11_fits_12
