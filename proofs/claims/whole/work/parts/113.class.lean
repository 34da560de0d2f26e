noncomputable def f5_keep (k1 : Nat) (σ : SI) : SI := oq (f5_dayAt (σ 26 5)) (if (σ 26 5) < (39 : Int32) then (let s0 := sp σ 26 5 ((σ 26 5) + (1 : Int32)); let s1 := sp s0 26 4 (if ((σ 26 4) + (1 : Int32)) < (40 : Int32) then ((σ 26 4) + (1 : Int32)) else (40 : Int32)); s1) else (let s2 := sp σ 26 5 (0 : Int32); let s3 := sp s2 26 4 (if ((σ 26 4) + (1 : Int32)) < (40 : Int32) then ((σ 26 4) + (1 : Int32)) else (40 : Int32)); s3)) (fun o_1k => let s4 := (f0_copy o_1k k1 σ); if (s4 26 5) < (39 : Int32) then (let s5 := sp s4 26 5 ((s4 26 5) + (1 : Int32)); let s6 := sp s5 26 4 (if ((s4 26 4) + (1 : Int32)) < (40 : Int32) then ((s4 26 4) + (1 : Int32)) else (40 : Int32)); s6) else (let s7 := sp s4 26 5 (0 : Int32); let s8 := sp s7 26 4 (if ((s4 26 4) + (1 : Int32)) < (40 : Int32) then ((s4 26 4) + (1 : Int32)) else (40 : Int32)); s8))
set_option maxHeartbeats 4000000 in
set_option maxRecDepth 100000 in
theorem c5_keep (l : Launch) (G : GT) {k1 : Nat} (hk1 : isDay k1) (σ : SI) (τ : SL) : Mc l yX5_keep cX5_keep 3 none 3 G [.ref (G.2.1 26), .ref (G.2.1 k1)] σ τ (Qv G (Ev (f5_keep k1 σ) τ)) := by
  refine m_start (by decide +kernel) (Nat.le_of_ble_eq_true rfl) rfl (fun p e s m args below meth c ls X I hl => ?_)
  have hl : lv_has ls 3 [(0, .ref (G.2.1 26)), (1, .ref (G.2.1 k1))] := hl
  obtain ⟨E, hE⟩ : ∃ E, E = (f5_keep k1 σ) := ⟨_, rfl⟩
  rw [← hE]
  refine lv_aload_n X.1 X.2.1 dX5_keep_0 rfl (lv_at hl 0 rfl) ?_
  refine lv_aload_n X.1 X.2.1 dX5_keep_1 rfl (lv_at hl 0 rfl) ?_
  refine g5_5 X I (k := 26) (by decide) rfl lf_X5_33 dX5_keep_2 ?_
  refine r_eqs I (r_runV X I pk_X5_dayAt (c5_dayAt l G _ _ _) lm_X5_40 (by decide) (cl_5 rfl) rfl rfl rfl hl.1 rfl (Nat.le_of_ble_eq_true rfl) dX5_keep_5 ⟨Nat.le_of_ble_eq_true rfl, Nat.le_of_ble_eq_true rfl⟩ ⟨Nat.le_refl 0, Nat.le_refl 0⟩) (fun o_1 H locs I => ?_) (fun o_1k ho_1 H locs I => ?_)
  · skip
    have hE := hE.trans (oq_none o_1)
    refine lv_astore_nN (lv' := [(2, .null), (0, .ref _), (1, .ref _)]) X.1 X.2.1 dX5_keep_8 rfl hl (by decide) rfl (fun ls hl => ?_)
    refine lv_aload_nN X.1 X.2.1 dX5_keep_9 rfl (lv_at hl 0 rfl) ?_
    refine lv_ifnullN (tgt := 18) X.1 X.2.1 dX5_keep_10 (by decide) ?_
    refine lv_aload_n X.1 X.2.1 dX5_keep_18 rfl (lv_at hl 1 rfl) ?_
    refine lv_aload_n X.1 X.2.1 dX5_keep_19 rfl (lv_at hl 1 rfl) ?_
    refine g5_5 X I (k := 26) (by decide) rfl lf_X5_33 dX5_keep_20 ?_
    refine lv_bipush (v := 39) X.1 X.2.1 dX5_keep_23 (by decide) ?_
    refine lv_icmp_lt (tgt := 32) X.1 X.2.1 dX5_keep_25 (by decide) (fun c_2 => ?_) (fun c_2 => ?_)
    · skip
      have hE := ite_t hE c_2
      refine lv_aload_n X.1 X.2.1 dX5_keep_32 rfl (lv_at hl 1 rfl) ?_
      refine g5_5 X I (k := 26) (by decide) rfl lf_X5_33 dX5_keep_33 ?_
      refine lv_iconst (v := 1) X.1 X.2.1 dX5_keep_36 (by decide) ?_
      refine lv_iadd X.1 X.2.1 dX5_keep_37 ?_
      refine p5_5 X I (k := 26) (by decide) rfl lf_X5_33 dX5_keep_38 (fun H locs I => ?_)
      refine lv_aload_n X.1 X.2.1 dX5_keep_41 rfl (lv_at hl 1 rfl) ?_
      refine lv_bipush (v := 40) X.1 X.2.1 dX5_keep_42 (by decide) ?_
      refine lv_aload_n X.1 X.2.1 dX5_keep_44 rfl (lv_at hl 1 rfl) ?_
      refine g5_4 X I (k := 26) (by decide) rfl lf_X5_29 dX5_keep_45 ?_
      refine lv_iconst (v := 1) X.1 X.2.1 dX5_keep_48 (by decide) ?_
      refine lv_iadd X.1 X.2.1 dX5_keep_49 ?_
      refine r_mmin X hl.1 lm_X5_48 ls_J9_min_7cf53 ln_J9 lc_J9_min_7cf53 (Nat.le_of_ble_eq_true rfl) (Nat.le_of_ble_eq_true rfl) (Nat.le_refl 0) (Nat.le_refl 0) dX5_keep_50 ?_
      refine p5_4 X I (k := 26) (by decide) rfl lf_X5_29 dX5_keep_53 (fun H locs I => ?_)
      have h9 := hE
      exact r_vret X I (e_v h9.symm rfl) dX5_keep_56
    · skip
      have hE := ite_f hE c_2
      refine lv_iconst (v := 0) X.1 X.2.1 dX5_keep_28 (by decide) ?_
      refine lv_goto (tgt := 38) X.1 X.2.1 dX5_keep_29 (by decide) ?_
      refine p5_5 X I (k := 26) (by decide) rfl lf_X5_33 dX5_keep_38 (fun H locs I => ?_)
      refine lv_aload_n X.1 X.2.1 dX5_keep_41 rfl (lv_at hl 1 rfl) ?_
      refine lv_bipush (v := 40) X.1 X.2.1 dX5_keep_42 (by decide) ?_
      refine lv_aload_n X.1 X.2.1 dX5_keep_44 rfl (lv_at hl 1 rfl) ?_
      refine g5_4 X I (k := 26) (by decide) rfl lf_X5_29 dX5_keep_45 ?_
      refine lv_iconst (v := 1) X.1 X.2.1 dX5_keep_48 (by decide) ?_
      refine lv_iadd X.1 X.2.1 dX5_keep_49 ?_
      refine r_mmin X hl.1 lm_X5_48 ls_J9_min_7cf53 ln_J9 lc_J9_min_7cf53 (Nat.le_of_ble_eq_true rfl) (Nat.le_of_ble_eq_true rfl) (Nat.le_refl 0) (Nat.le_refl 0) dX5_keep_50 ?_
      refine p5_4 X I (k := 26) (by decide) rfl lf_X5_29 dX5_keep_53 (fun H locs I => ?_)
      have h9 := hE
      exact r_vret X I (e_v h9.symm rfl) dX5_keep_56
  · skip
    have hko_1 := day_fact ho_1
    have hE := hE.trans (oq_some ho_1)
    refine lv_astore_n (lv' := [(2, .ref _), (0, .ref _), (1, .ref _)]) X.1 X.2.1 dX5_keep_8 rfl hl (by decide) rfl (fun ls hl => ?_)
    refine lv_aload_n X.1 X.2.1 dX5_keep_9 rfl (lv_at hl 0 rfl) ?_
    refine lv_ifnull X.1 X.2.1 dX5_keep_10 ?_
    refine lv_aload_n X.1 X.2.1 dX5_keep_13 rfl (lv_at hl 0 rfl) ?_
    refine lv_aload_n X.1 X.2.1 dX5_keep_14 rfl (lv_at hl 2 rfl) ?_
    refine r_ev I (r_runV X I pk_X0_copy (c0_copy l G (k := o_1k) hko_1 (k1 := k1) hk1 _ _) lm_X5_44 (Nat.lt_of_le_of_lt (Nat.add_le_add_left (show 0 ≤ 1 by decide) o_1k) hko_1.1) (cl_0 hko_1.2.1) rfl rfl rfl hl.1 rfl (Nat.le_of_ble_eq_true rfl) dX5_keep_15 ⟨Nat.le_of_ble_eq_true rfl, Nat.le_of_ble_eq_true rfl⟩ ⟨Nat.le_refl 0, Nat.le_refl 0⟩) (fun H locs I => ?_)
    refine lv_aload_n X.1 X.2.1 dX5_keep_18 rfl (lv_at hl 1 rfl) ?_
    refine lv_aload_n X.1 X.2.1 dX5_keep_19 rfl (lv_at hl 1 rfl) ?_
    refine g5_5 X I (k := 26) (by decide) rfl lf_X5_33 dX5_keep_20 ?_
    refine lv_bipush (v := 39) X.1 X.2.1 dX5_keep_23 (by decide) ?_
    refine lv_icmp_lt (tgt := 32) X.1 X.2.1 dX5_keep_25 (by decide) (fun c_3 => ?_) (fun c_3 => ?_)
    · skip
      have hE := ite_t hE c_3
      refine lv_aload_n X.1 X.2.1 dX5_keep_32 rfl (lv_at hl 1 rfl) ?_
      refine g5_5 X I (k := 26) (by decide) rfl lf_X5_33 dX5_keep_33 ?_
      refine lv_iconst (v := 1) X.1 X.2.1 dX5_keep_36 (by decide) ?_
      refine lv_iadd X.1 X.2.1 dX5_keep_37 ?_
      refine p5_5 X I (k := 26) (by decide) rfl lf_X5_33 dX5_keep_38 (fun H locs I => ?_)
      refine lv_aload_n X.1 X.2.1 dX5_keep_41 rfl (lv_at hl 1 rfl) ?_
      refine lv_bipush (v := 40) X.1 X.2.1 dX5_keep_42 (by decide) ?_
      refine lv_aload_n X.1 X.2.1 dX5_keep_44 rfl (lv_at hl 1 rfl) ?_
      refine g5_4 X I (k := 26) (by decide) rfl lf_X5_29 dX5_keep_45 ?_
      refine lv_iconst (v := 1) X.1 X.2.1 dX5_keep_48 (by decide) ?_
      refine lv_iadd X.1 X.2.1 dX5_keep_49 ?_
      refine r_mmin X hl.1 lm_X5_48 ls_J9_min_7cf53 ln_J9 lc_J9_min_7cf53 (Nat.le_of_ble_eq_true rfl) (Nat.le_of_ble_eq_true rfl) (Nat.le_refl 0) (Nat.le_refl 0) dX5_keep_50 ?_
      refine p5_4 X I (k := 26) (by decide) rfl lf_X5_29 dX5_keep_53 (fun H locs I => ?_)
      have h9 := hE
      exact r_vret X I (e_v h9.symm rfl) dX5_keep_56
    · skip
      have hE := ite_f hE c_3
      refine lv_iconst (v := 0) X.1 X.2.1 dX5_keep_28 (by decide) ?_
      refine lv_goto (tgt := 38) X.1 X.2.1 dX5_keep_29 (by decide) ?_
      refine p5_5 X I (k := 26) (by decide) rfl lf_X5_33 dX5_keep_38 (fun H locs I => ?_)
      refine lv_aload_n X.1 X.2.1 dX5_keep_41 rfl (lv_at hl 1 rfl) ?_
      refine lv_bipush (v := 40) X.1 X.2.1 dX5_keep_42 (by decide) ?_
      refine lv_aload_n X.1 X.2.1 dX5_keep_44 rfl (lv_at hl 1 rfl) ?_
      refine g5_4 X I (k := 26) (by decide) rfl lf_X5_29 dX5_keep_45 ?_
      refine lv_iconst (v := 1) X.1 X.2.1 dX5_keep_48 (by decide) ?_
      refine lv_iadd X.1 X.2.1 dX5_keep_49 ?_
      refine r_mmin X hl.1 lm_X5_48 ls_J9_min_7cf53 ln_J9 lc_J9_min_7cf53 (Nat.le_of_ble_eq_true rfl) (Nat.le_of_ble_eq_true rfl) (Nat.le_refl 0) (Nat.le_refl 0) dX5_keep_50 ?_
      refine p5_4 X I (k := 26) (by decide) rfl lf_X5_29 dX5_keep_53 (fun H locs I => ?_)
      have h9 := hE
      exact r_vret X I (e_v h9.symm rfl) dX5_keep_56
theorem w_f5_keep {k1 : Nat} (σ : SI) (a : Nat) (h0 : a ≠ 26) (hL : a < 43 ∨ 123 ≤ a) : f5_keep k1 σ a = σ a := by
  unfold f5_keep
  (try dsimp only)
  refine oq_all (P := fun (z : SI) => z a = σ a) (fun _ => ?_) (fun k hk => ?_)
  · (repeat' split) <;> (first | with_reducible rfl | (simp only [sp_n, su_n, ne_eq, not_false_eq_true, h0]; done))
  · obtain ⟨r1, r2⟩ := day_rng hk
    have e1 : a ≠ k := by omega
    have e2 : a ≠ k + 1 := by omega
    (repeat' split) <;> (first | with_reducible rfl | (simp only [sp_n, su_n, ne_eq, not_false_eq_true, h0, e1, e2, w_f0_copy]; done))
noncomputable def f5_takeBack (k1 : Nat) (σ : SI) : Bool × SI := if (0 : Int32) < (σ 26 4) then (if (0 : Int32) < (σ 26 5) then (let s0 := sp σ 26 5 ((σ 26 5) - (1 : Int32)); let s1 := sp s0 26 4 ((σ 26 4) - (1 : Int32)); oq (f5_dayAt ((σ 26 5) - (1 : Int32))) ((true, s1)) (fun o_3k => let s2 := (f0_copy k1 o_3k s1); (true, s2))) else (let s3 := sp σ 26 5 (39 : Int32); let s4 := sp s3 26 4 ((σ 26 4) - (1 : Int32)); oq (f5_dayAt (39 : Int32)) ((true, s4)) (fun o_4k => let s5 := (f0_copy k1 o_4k s4); (true, s5)))) else (false, σ)
theorem w_f5_takeBack {k1 : Nat} (σ : SI) (a : Nat) (h0 : a ≠ 26) (h1 : a ≠ (k1 + 1)) (h2 : a ≠ k1) : (f5_takeBack k1 σ).2 a = σ a := by
  refine fp_to2 ?_
  unfold f5_takeBack
  exact (fr_ite2 (fr_ite2 (oq_all (P := fun (z : Bool × SI) => Fp2 z a (σ a)) (fun _ => (fr_mk21 ((sp_n h0).trans (sp_n h0)))) (fun o_3k ho_3k => (fr_mk21 ((w_f0_copy _ a h1 h2).trans ((sp_n h0).trans (sp_n h0)))))) (oq_all (P := fun (z : Bool × SI) => Fp2 z a (σ a)) (fun _ => (fr_mk21 ((sp_n h0).trans (sp_n h0)))) (fun o_4k ho_4k => (fr_mk21 ((w_f0_copy _ a h1 h2).trans ((sp_n h0).trans (sp_n h0))))))) (fr_mk21 rfl))
set_option maxHeartbeats 4000000 in
set_option maxRecDepth 100000 in
theorem c5_takeBack (l : Launch) (G : GT) {k1 : Nat} (hk1 : isDay k1) (σ : SI) (τ : SL) : Mc l yX5_takeBack cX5_takeBack 3 (some .boolean) 3 G [.ref (G.2.1 26), .ref (G.2.1 k1)] σ τ (Qi G (Ei (b2i (f5_takeBack k1 σ).1) (f5_takeBack k1 σ).2 τ)) := by
  refine m_start (by decide +kernel) (Nat.le_of_ble_eq_true rfl) rfl (fun p e s m args below meth c ls X I hl => ?_)
  have hl : lv_has ls 3 [(0, .ref (G.2.1 26)), (1, .ref (G.2.1 k1))] := hl
  obtain ⟨E, hE⟩ : ∃ E, E = (f5_takeBack k1 σ) := ⟨_, rfl⟩
  rw [← hE]
  refine lv_aload_n X.1 X.2.1 dX5_takeBack_0 rfl (lv_at hl 0 rfl) ?_
  refine g5_4 X I (k := 26) (by decide) rfl lf_X5_29 dX5_takeBack_1 ?_
  refine lv_if_gt (tgt := 9) X.1 X.2.1 dX5_takeBack_4 (by decide) (fun c_1 => ?_) (fun c_1 => ?_)
  · skip
    have hE := ite_t hE c_1
    refine lv_aload_n X.1 X.2.1 dX5_takeBack_9 rfl (lv_at hl 0 rfl) ?_
    refine lv_aload_n X.1 X.2.1 dX5_takeBack_10 rfl (lv_at hl 0 rfl) ?_
    refine g5_5 X I (k := 26) (by decide) rfl lf_X5_33 dX5_takeBack_11 ?_
    refine lv_if_gt (tgt := 22) X.1 X.2.1 dX5_takeBack_14 (by decide) (fun c_2 => ?_) (fun c_2 => ?_)
    · skip
      have hE := ite_t hE c_2
      refine lv_aload_n X.1 X.2.1 dX5_takeBack_22 rfl (lv_at hl 0 rfl) ?_
      refine g5_5 X I (k := 26) (by decide) rfl lf_X5_33 dX5_takeBack_23 ?_
      refine lv_iconst (v := 1) X.1 X.2.1 dX5_takeBack_26 (by decide) ?_
      refine lv_isub X.1 X.2.1 dX5_takeBack_27 ?_
      refine p5_5 X I (k := 26) (by decide) rfl lf_X5_33 dX5_takeBack_28 (fun H locs I => ?_)
      refine lv_aload_n X.1 X.2.1 dX5_takeBack_31 rfl (lv_at hl 0 rfl) ?_
      refine lv_dup X.1 X.2.1 dX5_takeBack_32 rfl ?_
      refine g5_4 X I (k := 26) (by decide) rfl lf_X5_29 dX5_takeBack_33 ?_
      refine lv_iconst (v := 1) X.1 X.2.1 dX5_takeBack_36 (by decide) ?_
      refine lv_isub X.1 X.2.1 dX5_takeBack_37 ?_
      refine p5_4 X I (k := 26) (by decide) rfl lf_X5_29 dX5_takeBack_38 (fun H locs I => ?_)
      refine lv_aload_n X.1 X.2.1 dX5_takeBack_41 rfl (lv_at hl 0 rfl) ?_
      refine lv_aload_n X.1 X.2.1 dX5_takeBack_42 rfl (lv_at hl 0 rfl) ?_
      refine g5_5 X I (k := 26) (by decide) rfl lf_X5_33 dX5_takeBack_43 ?_
      refine r_eqs I (r_runV X I pk_X5_dayAt (c5_dayAt l G _ _ _) lm_X5_40 (by decide) (cl_5 rfl) rfl rfl rfl hl.1 rfl (Nat.le_of_ble_eq_true rfl) dX5_takeBack_46 ⟨Nat.le_of_ble_eq_true rfl, Nat.le_of_ble_eq_true rfl⟩ ⟨Nat.le_refl 0, Nat.le_refl 0⟩) (fun o_3 H locs I => ?_) (fun o_3k ho_3 H locs I => ?_)
      · skip
        have hE := hE.trans (oq_none o_3)
        refine lv_astore_nN (lv' := [(2, .null), (0, .ref _), (1, .ref _)]) X.1 X.2.1 dX5_takeBack_49 rfl hl (by decide) rfl (fun ls hl => ?_)
        refine lv_aload_nN X.1 X.2.1 dX5_takeBack_50 rfl (lv_at hl 0 rfl) ?_
        refine lv_ifnullN (tgt := 59) X.1 X.2.1 dX5_takeBack_51 (by decide) ?_
        refine lv_iconst (v := 1) X.1 X.2.1 dX5_takeBack_59 (by decide) ?_
        have h9 := hE
        exact r_zret X I rfl (e_i (congrArg b2i (pr_fst (a := true) h9)) (pr_snd h9) rfl) dX5_takeBack_60
      · skip
        have hko_3 := day_fact ho_3
        have hE := hE.trans (oq_some ho_3)
        refine lv_astore_n (lv' := [(2, .ref _), (0, .ref _), (1, .ref _)]) X.1 X.2.1 dX5_takeBack_49 rfl hl (by decide) rfl (fun ls hl => ?_)
        refine lv_aload_n X.1 X.2.1 dX5_takeBack_50 rfl (lv_at hl 0 rfl) ?_
        refine lv_ifnull X.1 X.2.1 dX5_takeBack_51 ?_
        refine lv_aload_n X.1 X.2.1 dX5_takeBack_54 rfl (lv_at hl 2 rfl) ?_
        refine lv_aload_n X.1 X.2.1 dX5_takeBack_55 rfl (lv_at hl 0 rfl) ?_
        refine r_ev I (r_runV X I pk_X0_copy (c0_copy l G (k := k1) hk1 (k1 := o_3k) hko_3 _ _) lm_X5_44 (Nat.lt_of_le_of_lt (Nat.add_le_add_left (show 0 ≤ 1 by decide) k1) hk1.1) (cl_0 hk1.2.1) rfl rfl rfl hl.1 rfl (Nat.le_of_ble_eq_true rfl) dX5_takeBack_56 ⟨Nat.le_of_ble_eq_true rfl, Nat.le_of_ble_eq_true rfl⟩ ⟨Nat.le_refl 0, Nat.le_refl 0⟩) (fun H locs I => ?_)
        refine lv_iconst (v := 1) X.1 X.2.1 dX5_takeBack_59 (by decide) ?_
        have h9 := hE
        exact r_zret X I rfl (e_i (congrArg b2i (pr_fst (a := true) h9)) (pr_snd h9) rfl) dX5_takeBack_60
    · skip
      have hE := ite_f hE c_2
      refine lv_bipush (v := 39) X.1 X.2.1 dX5_takeBack_17 (by decide) ?_
      refine lv_goto (tgt := 28) X.1 X.2.1 dX5_takeBack_19 (by decide) ?_
      refine p5_5 X I (k := 26) (by decide) rfl lf_X5_33 dX5_takeBack_28 (fun H locs I => ?_)
      refine lv_aload_n X.1 X.2.1 dX5_takeBack_31 rfl (lv_at hl 0 rfl) ?_
      refine lv_dup X.1 X.2.1 dX5_takeBack_32 rfl ?_
      refine g5_4 X I (k := 26) (by decide) rfl lf_X5_29 dX5_takeBack_33 ?_
      refine lv_iconst (v := 1) X.1 X.2.1 dX5_takeBack_36 (by decide) ?_
      refine lv_isub X.1 X.2.1 dX5_takeBack_37 ?_
      refine p5_4 X I (k := 26) (by decide) rfl lf_X5_29 dX5_takeBack_38 (fun H locs I => ?_)
      refine lv_aload_n X.1 X.2.1 dX5_takeBack_41 rfl (lv_at hl 0 rfl) ?_
      refine lv_aload_n X.1 X.2.1 dX5_takeBack_42 rfl (lv_at hl 0 rfl) ?_
      refine g5_5 X I (k := 26) (by decide) rfl lf_X5_33 dX5_takeBack_43 ?_
      refine r_eqs I (r_runV X I pk_X5_dayAt (c5_dayAt l G _ _ _) lm_X5_40 (by decide) (cl_5 rfl) rfl rfl rfl hl.1 rfl (Nat.le_of_ble_eq_true rfl) dX5_takeBack_46 ⟨Nat.le_of_ble_eq_true rfl, Nat.le_of_ble_eq_true rfl⟩ ⟨Nat.le_refl 0, Nat.le_refl 0⟩) (fun o_4 H locs I => ?_) (fun o_4k ho_4 H locs I => ?_)
      · skip
        have hE := hE.trans (oq_none o_4)
        refine lv_astore_nN (lv' := [(2, .null), (0, .ref _), (1, .ref _)]) X.1 X.2.1 dX5_takeBack_49 rfl hl (by decide) rfl (fun ls hl => ?_)
        refine lv_aload_nN X.1 X.2.1 dX5_takeBack_50 rfl (lv_at hl 0 rfl) ?_
        refine lv_ifnullN (tgt := 59) X.1 X.2.1 dX5_takeBack_51 (by decide) ?_
        refine lv_iconst (v := 1) X.1 X.2.1 dX5_takeBack_59 (by decide) ?_
        have h9 := hE
        exact r_zret X I rfl (e_i (congrArg b2i (pr_fst (a := true) h9)) (pr_snd h9) rfl) dX5_takeBack_60
      · skip
        have hko_4 := day_fact ho_4
        have hE := hE.trans (oq_some ho_4)
        refine lv_astore_n (lv' := [(2, .ref _), (0, .ref _), (1, .ref _)]) X.1 X.2.1 dX5_takeBack_49 rfl hl (by decide) rfl (fun ls hl => ?_)
        refine lv_aload_n X.1 X.2.1 dX5_takeBack_50 rfl (lv_at hl 0 rfl) ?_
        refine lv_ifnull X.1 X.2.1 dX5_takeBack_51 ?_
        refine lv_aload_n X.1 X.2.1 dX5_takeBack_54 rfl (lv_at hl 2 rfl) ?_
        refine lv_aload_n X.1 X.2.1 dX5_takeBack_55 rfl (lv_at hl 0 rfl) ?_
        refine r_ev I (r_runV X I pk_X0_copy (c0_copy l G (k := k1) hk1 (k1 := o_4k) hko_4 _ _) lm_X5_44 (Nat.lt_of_le_of_lt (Nat.add_le_add_left (show 0 ≤ 1 by decide) k1) hk1.1) (cl_0 hk1.2.1) rfl rfl rfl hl.1 rfl (Nat.le_of_ble_eq_true rfl) dX5_takeBack_56 ⟨Nat.le_of_ble_eq_true rfl, Nat.le_of_ble_eq_true rfl⟩ ⟨Nat.le_refl 0, Nat.le_refl 0⟩) (fun H locs I => ?_)
        refine lv_iconst (v := 1) X.1 X.2.1 dX5_takeBack_59 (by decide) ?_
        have h9 := hE
        exact r_zret X I rfl (e_i (congrArg b2i (pr_fst (a := true) h9)) (pr_snd h9) rfl) dX5_takeBack_60
  · skip
    have hE := ite_f hE c_1
    refine lv_iconst (v := 0) X.1 X.2.1 dX5_takeBack_7 (by decide) ?_
    have h9 := hE
    exact r_zret X I rfl (e_i (congrArg b2i (pr_fst (a := false) h9)) (pr_snd h9) rfl) dX5_takeBack_8
noncomputable def ffloorMod (x0 : Int32) (x1 : Int32) : Int32 := if (0 : Int32) ≤ (x0 ^^^ x1) then (x0 - x0 / x1 * x1) else (if (x0 - x0 / x1 * x1) = (0 : Int32) then (x0 - x0 / x1 * x1) else ((x0 - x0 / x1 * x1) + x1))
set_option maxHeartbeats 4000000 in
set_option maxRecDepth 100000 in
theorem cfloorMod (l : Launch) (G : GT) (σ : SI) (τ : SL) (x0 : Int32) (x1 : Int32) (hy : ¬ x1 = 0) : Mc l yJ9_floorMod_7cf53 cJ9_floorMod_7cf53 3 (some .int) 0 G [.int x0, .int x1] σ τ (Qi G (Ei (ffloorMod x0 x1) σ τ)) := by
  refine m_start (by decide +kernel) (Nat.le_of_ble_eq_true rfl) rfl (fun p e s m args below meth c ls X I hl => ?_)
  have hl : lv_has ls 3 [(0, .int x0), (1, .int x1)] := hl
  obtain ⟨E, hE⟩ : ∃ E, E = (ffloorMod x0 x1) := ⟨_, rfl⟩
  rw [← hE]
  refine lv_iload_n X.1 X.2.1 dJ9_floorMod_7cf53_0 rfl (lv_at hl 0 rfl) ?_
  refine lv_iload_n X.1 X.2.1 dJ9_floorMod_7cf53_1 rfl (lv_at hl 1 rfl) ?_
  refine lv_irem X.1 X.2.1 dJ9_floorMod_7cf53_2 (hy) ?_
  refine lv_istore_n (lv' := [(2, .int _), (0, .int _), (1, .int _)]) X.1 X.2.1 dJ9_floorMod_7cf53_3 rfl hl (by decide) rfl (fun ls hl => ?_)
  refine lv_iload_n X.1 X.2.1 dJ9_floorMod_7cf53_4 rfl (lv_at hl 1 rfl) ?_
  refine lv_iload_n X.1 X.2.1 dJ9_floorMod_7cf53_5 rfl (lv_at hl 2 rfl) ?_
  refine lv_ixor X.1 X.2.1 dJ9_floorMod_7cf53_6 ?_
  refine lv_if_ge (tgt := 18) X.1 X.2.1 dJ9_floorMod_7cf53_7 (by decide) (fun c_1 => ?_) (fun c_1 => ?_)
  · skip
    have hE := ite_t hE c_1
    refine lv_iload_n X.1 X.2.1 dJ9_floorMod_7cf53_18 rfl (lv_at hl 0 rfl) ?_
    have h9 := hE
    exact r_iret X I (e_i h9.symm rfl rfl) dJ9_floorMod_7cf53_19
  · skip
    have hE := ite_f hE c_1
    refine lv_iload_n X.1 X.2.1 dJ9_floorMod_7cf53_10 rfl (lv_at hl 0 rfl) ?_
    refine lv_if_eq (tgt := 18) X.1 X.2.1 dJ9_floorMod_7cf53_11 (by decide) (fun c_2 => ?_) (fun c_2 => ?_)
    · skip
      have hE := ite_t hE c_2
      refine lv_iload_n X.1 X.2.1 dJ9_floorMod_7cf53_18 rfl (lv_at hl 0 rfl) ?_
      have h9 := hE
      exact r_iret X I (e_i h9.symm rfl rfl) dJ9_floorMod_7cf53_19
    · skip
      have hE := ite_f hE c_2
      refine lv_iload_n X.1 X.2.1 dJ9_floorMod_7cf53_14 rfl (lv_at hl 0 rfl) ?_
      refine lv_iload_n X.1 X.2.1 dJ9_floorMod_7cf53_15 rfl (lv_at hl 2 rfl) ?_
      refine lv_iadd X.1 X.2.1 dJ9_floorMod_7cf53_16 ?_
      have h9 := hE
      exact r_iret X I (e_i h9.symm rfl rfl) dJ9_floorMod_7cf53_17
noncomputable def f5_rowStart (x0 : Int32) : Int32 := ((ffloorMod x0 (100 : Int32)) * (4 : Int32))
set_option maxHeartbeats 4000000 in
set_option maxRecDepth 100000 in
theorem c5_rowStart (l : Launch) (G : GT) (σ : SI) (τ : SL) (x0 : Int32) : Mc l yX5_rowStart cX5_rowStart 1 (some .int) 1 G [.int x0] σ τ (Qi G (Ei (f5_rowStart x0) σ τ)) := by
  refine m_start (by decide +kernel) (Nat.le_of_ble_eq_true rfl) rfl (fun p e s m args below meth c ls X I hl => ?_)
  have hl : lv_has ls 1 [(0, .int x0)] := hl
  obtain ⟨E, hE⟩ : ∃ E, E = (f5_rowStart x0) := ⟨_, rfl⟩
  rw [← hE]
  refine lv_iload_n X.1 X.2.1 dX5_rowStart_0 rfl (lv_at hl 0 rfl) ?_
  refine lv_bipush (v := 100) X.1 X.2.1 dX5_rowStart_1 (by decide) ?_
  refine r_ei I (r_runS X I pk_J9_floorMod_7cf53 (cfloorMod l G _ _ _ _ (by decide)) lm_X5_76 rfl hl.1 rfl (Nat.le_of_ble_eq_true rfl) dX5_rowStart_3 ⟨Nat.le_of_ble_eq_true rfl, Nat.le_of_ble_eq_true rfl⟩ ⟨Nat.le_refl 0, Nat.le_refl 0⟩) (fun H locs I => ?_)
  refine lv_iconst (v := 4) X.1 X.2.1 dX5_rowStart_6 (by decide) ?_
  refine lv_imul X.1 X.2.1 dX5_rowStart_7 ?_
  have h9 := hE
  exact r_iret X I (e_i h9.symm rfl rfl) dX5_rowStart_8
noncomputable def f5_note (k1 : Nat) (σ : SI) (x2 : Int32) (x3 : Int32) (x4 : Int32) : SI := let s0 := (f11_setCell 28 400 σ (f5_rowStart (σ k1 8)) x2); let s1 := (f11_setCell 28 400 s0 ((f5_rowStart (σ k1 8)) + (1 : Int32)) x3); let s2 := (f11_setCell 28 400 s1 ((f5_rowStart (σ k1 8)) + (2 : Int32)) x4); let s3 := (f11_setCell 28 400 s2 ((f5_rowStart (σ k1 8)) + (3 : Int32)) (s2 k1 2)); let s4 := sp s3 k1 8 ((s3 k1 8) + (1 : Int32)); s4
theorem w_f5_note {k1 : Nat} (σ : SI) (x2 : Int32) (x3 : Int32) (x4 : Int32) (a : Nat) (h0 : a ≠ 28) (h1 : a ≠ k1) : (f5_note k1 σ x2 x3 x4) a = σ a := by
  unfold f5_note
  exact ((sp_n h1).trans ((w_f11_setCell _ _ _ a h0).trans ((w_f11_setCell _ _ _ a h0).trans ((w_f11_setCell _ _ _ a h0).trans (w_f11_setCell _ _ _ a h0)))))
set_option maxHeartbeats 4000000 in
set_option maxRecDepth 100000 in
theorem c5_note (l : Launch) (G : GT) {k1 : Nat} (hk1 : isDay k1) (σ : SI) (τ : SL) (x2 : Int32) (x3 : Int32) (x4 : Int32) : Mc l yX5_note cX5_note 6 none 2 G [.ref (G.2.1 26), .ref (G.2.1 k1), .int x2, .int x3, .int x4] σ τ (Qv G (Ev (f5_note k1 σ x2 x3 x4) τ)) := by
  refine m_start (by decide +kernel) (Nat.le_of_ble_eq_true rfl) rfl (fun p e s m args below meth c ls X I hl => ?_)
  have hl : lv_has ls 6 [(0, .ref (G.2.1 26)), (1, .ref (G.2.1 k1)), (2, .int x2), (3, .int x3), (4, .int x4)] := hl
  obtain ⟨E, hE⟩ : ∃ E, E = (f5_note k1 σ x2 x3 x4) := ⟨_, rfl⟩
  rw [← hE]
  refine lv_aload_n X.1 X.2.1 dX5_note_0 rfl (lv_at hl 1 rfl) ?_
  refine g0_8 X I (k := k1) (Nat.lt_of_le_of_lt (Nat.add_le_add_left (show 0 ≤ 1 by decide) k1) hk1.1) hk1.2.1 lf_X5_54 dX5_note_1 ?_
  refine r_ei I (r_runS X I pk_X5_rowStart (c5_rowStart l G _ _ _) lm_X5_57 rfl hl.1 rfl (Nat.le_of_ble_eq_true rfl) dX5_note_4 ⟨Nat.le_of_ble_eq_true rfl, Nat.le_of_ble_eq_true rfl⟩ ⟨Nat.le_refl 0, Nat.le_refl 0⟩) (fun H locs I => ?_)
  refine lv_istore (lv' := [(5, .int _), (0, .ref _), (1, .ref _), (2, .int _), (3, .int _), (4, .int _)]) X.1 X.2.1 dX5_note_7 hl (by decide) rfl (fun ls hl => ?_)
  refine lv_aload_n X.1 X.2.1 dX5_note_9 rfl (lv_at hl 1 rfl) ?_
  refine g5_1 X I (k := 26) (by decide) rfl lf_X5_18 dX5_note_10 ?_
  refine lv_iload X.1 X.2.1 dX5_note_13 (lv_at hl 0 rfl) ?_
  refine lv_iload_n X.1 X.2.1 dX5_note_15 rfl (lv_at hl 3 rfl) ?_
  refine r_ev I (r_runN X I pk_X11_setCell (c11_setCell l G (k := 28) (n := 400) (by decide) rfl (by decide) _ _ _ _) (by decide +kernel) rfl hl.1 rfl (Nat.le_of_ble_eq_true rfl) dX5_note_16 ⟨Nat.le_of_ble_eq_true rfl, Nat.le_of_ble_eq_true rfl⟩ ⟨Nat.le_refl 0, Nat.le_refl 0⟩) (fun H locs I => ?_)
  refine lv_aload_n X.1 X.2.1 dX5_note_19 rfl (lv_at hl 1 rfl) ?_
  refine g5_1 X I (k := 26) (by decide) rfl lf_X5_18 dX5_note_20 ?_
  refine lv_iload X.1 X.2.1 dX5_note_23 (lv_at hl 0 rfl) ?_
  refine lv_iconst (v := 1) X.1 X.2.1 dX5_note_25 (by decide) ?_
  refine lv_iadd X.1 X.2.1 dX5_note_26 ?_
  refine lv_iload_n X.1 X.2.1 dX5_note_27 rfl (lv_at hl 4 rfl) ?_
  refine r_ev I (r_runN X I pk_X11_setCell (c11_setCell l G (k := 28) (n := 400) (by decide) rfl (by decide) _ _ _ _) (by decide +kernel) rfl hl.1 rfl (Nat.le_of_ble_eq_true rfl) dX5_note_28 ⟨Nat.le_of_ble_eq_true rfl, Nat.le_of_ble_eq_true rfl⟩ ⟨Nat.le_refl 0, Nat.le_refl 0⟩) (fun H locs I => ?_)
  refine lv_aload_n X.1 X.2.1 dX5_note_31 rfl (lv_at hl 1 rfl) ?_
  refine g5_1 X I (k := 26) (by decide) rfl lf_X5_18 dX5_note_32 ?_
  refine lv_iload X.1 X.2.1 dX5_note_35 (lv_at hl 0 rfl) ?_
  refine lv_iconst (v := 2) X.1 X.2.1 dX5_note_37 (by decide) ?_
  refine lv_iadd X.1 X.2.1 dX5_note_38 ?_
  refine lv_iload X.1 X.2.1 dX5_note_39 (lv_at hl 5 rfl) ?_
  refine r_ev I (r_runN X I pk_X11_setCell (c11_setCell l G (k := 28) (n := 400) (by decide) rfl (by decide) _ _ _ _) (by decide +kernel) rfl hl.1 rfl (Nat.le_of_ble_eq_true rfl) dX5_note_41 ⟨Nat.le_of_ble_eq_true rfl, Nat.le_of_ble_eq_true rfl⟩ ⟨Nat.le_refl 0, Nat.le_refl 0⟩) (fun H locs I => ?_)
  refine lv_aload_n X.1 X.2.1 dX5_note_44 rfl (lv_at hl 1 rfl) ?_
  refine g5_1 X I (k := 26) (by decide) rfl lf_X5_18 dX5_note_45 ?_
  refine lv_iload X.1 X.2.1 dX5_note_48 (lv_at hl 0 rfl) ?_
  refine lv_iconst (v := 3) X.1 X.2.1 dX5_note_50 (by decide) ?_
  refine lv_iadd X.1 X.2.1 dX5_note_51 ?_
  refine lv_aload_n X.1 X.2.1 dX5_note_52 rfl (lv_at hl 2 rfl) ?_
  refine g0_2 X I (k := k1) (Nat.lt_of_le_of_lt (Nat.add_le_add_left (show 0 ≤ 1 by decide) k1) hk1.1) hk1.2.1 lf_X5_65 dX5_note_53 ?_
  refine r_ev I (r_runN X I pk_X11_setCell (c11_setCell l G (k := 28) (n := 400) (by decide) rfl (by decide) _ _ _ _) (by decide +kernel) rfl hl.1 rfl (Nat.le_of_ble_eq_true rfl) dX5_note_56 ⟨Nat.le_of_ble_eq_true rfl, Nat.le_of_ble_eq_true rfl⟩ ⟨Nat.le_refl 0, Nat.le_refl 0⟩) (fun H locs I => ?_)
  refine lv_aload_n X.1 X.2.1 dX5_note_59 rfl (lv_at hl 2 rfl) ?_
  refine lv_dup X.1 X.2.1 dX5_note_60 rfl ?_
  refine g0_8 X I (k := k1) (Nat.lt_of_le_of_lt (Nat.add_le_add_left (show 0 ≤ 1 by decide) k1) hk1.1) hk1.2.1 lf_X5_54 dX5_note_61 ?_
  refine lv_iconst (v := 1) X.1 X.2.1 dX5_note_64 (by decide) ?_
  refine lv_iadd X.1 X.2.1 dX5_note_65 ?_
  refine p0_8 X I (k := k1) (Nat.lt_of_le_of_lt (Nat.add_le_add_left (show 0 ≤ 1 by decide) k1) hk1.1) hk1.2.1 lf_X5_54 dX5_note_66 (fun H locs I => ?_)
  have h9 := hE
  exact r_vret X I (e_v h9.symm rfl) dX5_note_69
