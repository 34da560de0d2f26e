noncomputable def f12_closes (σ : SI) (x1 : Int32) : SI := if (σ 123 4) = (-1 : Int32) then (let r2 := (f12_look σ); if r2.1 = x1 then (let s3 := sp r2.2 123 3 ((r2.2 123 3) + (1 : Int32)); let s4 := sp s3 123 5 ((r2.2 123 5) - (1 : Int32)); s4) else (let s5 := (f12_bad r2.2); let s6 := sp s5 123 3 ((s5 123 3) + (1 : Int32)); let s7 := sp s6 123 5 ((s5 123 5) - (1 : Int32)); s7)) else (let s0 := sp σ 123 3 ((σ 123 3) + (1 : Int32)); let s1 := sp s0 123 5 ((σ 123 5) - (1 : Int32)); s1)
noncomputable def o12_closes (σ : SI) (x1 : Int32) : Prop := if (σ 123 4) = (-1 : Int32) then ((o12_look σ) ∧ (let r2 := (f12_look σ); if r2.1 = x1 then (let s3 := sp r2.2 123 3 ((r2.2 123 3) + (1 : Int32)); let s4 := sp s3 123 5 ((r2.2 123 5) - (1 : Int32)); True) else (let s5 := (f12_bad r2.2); let s6 := sp s5 123 3 ((s5 123 3) + (1 : Int32)); let s7 := sp s6 123 5 ((s5 123 5) - (1 : Int32)); True))) else (let s0 := sp σ 123 3 ((σ 123 3) + (1 : Int32)); let s1 := sp s0 123 5 ((σ 123 5) - (1 : Int32)); True)
theorem w_f12_closes (σ : SI) (x1 : Int32) (a : Nat) (h0 : a ≠ 123) : (f12_closes σ x1) a = σ a := by
  unfold f12_closes
  exact (fr_ite (fr_ite ((sp_n h0).trans ((sp_n h0).trans (w_f12_look _ a h0))) ((sp_n h0).trans ((sp_n h0).trans ((w_f12_bad _ a h0).trans (w_f12_look _ a h0))))) ((sp_n h0).trans (sp_n h0)))
set_option maxHeartbeats 4000000 in
set_option maxRecDepth 100000 in
theorem c12_closes (l : Launch) (G : GT) (σ : SI) (τ : SL) (x1 : Int32) (ho : o12_closes σ x1) : Mc l yX12_closes cX12_closes 2 none 2 G [.ref (G.2.1 123), .int x1] σ τ (Qv G (Ev (f12_closes σ x1) τ)) := by
  refine m_start (by decide +kernel) (Nat.le_of_ble_eq_true rfl) rfl (fun p e s m args below meth c ls X I hl => ?_)
  have hl : lv_has ls 2 [(0, .ref (G.2.1 123)), (1, .int x1)] := hl
  obtain ⟨E, hE⟩ : ∃ E, E = (f12_closes σ x1) := ⟨_, rfl⟩
  rw [← hE]
  unfold o12_closes at ho
  refine lv_aload_n X.1 X.2.1 dX12_closes_0 rfl (lv_at hl 0 rfl) ?_
  refine g12_4 X I (k := 123) (by decide) rfl lf_X12_122 dX12_closes_1 ?_
  refine lv_iconst (v := (-1)) X.1 X.2.1 dX12_closes_4 (by decide) ?_
  refine lv_icmp_ne (tgt := 20) X.1 X.2.1 dX12_closes_5 (by decide) (fun c_1 => ?_) (fun c_1 => ?_)
  · skip
    have hE := ite_f hE c_1
    have ho := ite_fP ho c_1
    refine lv_aload_n X.1 X.2.1 dX12_closes_20 rfl (lv_at hl 0 rfl) ?_
    refine lv_dup X.1 X.2.1 dX12_closes_21 rfl ?_
    refine g12_3 X I (k := 123) (by decide) rfl lf_X12_115 dX12_closes_22 ?_
    refine lv_iconst (v := 1) X.1 X.2.1 dX12_closes_25 (by decide) ?_
    refine lv_iadd X.1 X.2.1 dX12_closes_26 ?_
    refine p12_3 X I (k := 123) (by decide) rfl lf_X12_115 dX12_closes_27 (fun H locs I => ?_)
    refine lv_aload_n X.1 X.2.1 dX12_closes_30 rfl (lv_at hl 0 rfl) ?_
    refine lv_dup X.1 X.2.1 dX12_closes_31 rfl ?_
    refine g12_5 X I (k := 123) (by decide) rfl lf_X12_128 dX12_closes_32 ?_
    refine lv_iconst (v := 1) X.1 X.2.1 dX12_closes_35 (by decide) ?_
    refine lv_isub X.1 X.2.1 dX12_closes_36 ?_
    refine p12_5 X I (k := 123) (by decide) rfl lf_X12_128 dX12_closes_37 (fun H locs I => ?_)
    have h9 := hE
    exact r_vret X I (e_v h9.symm rfl) dX12_closes_40
  · skip
    have hE := ite_t hE c_1
    have ho := ite_tP ho c_1
    refine lv_aload_n X.1 X.2.1 dX12_closes_8 rfl (lv_at hl 0 rfl) ?_
    have ho1 := ho.1
    have ho := ho.2
    refine r_ei I (r_runV X I pk_X12_look (c12_look l G _ _ ho1) lm_X12_134 (by decide) (cl_12 rfl) rfl rfl rfl hl.1 rfl (Nat.le_of_ble_eq_true rfl) dX12_closes_9 ⟨Nat.le_of_ble_eq_true rfl, Nat.le_of_ble_eq_true rfl⟩ ⟨Nat.le_refl 0, Nat.le_refl 0⟩) (fun H locs I => ?_)
    refine lv_iload_n X.1 X.2.1 dX12_closes_12 rfl (lv_at hl 1 rfl) ?_
    refine lv_icmp_eq (tgt := 20) X.1 X.2.1 dX12_closes_13 (by decide) (fun c_2 => ?_) (fun c_2 => ?_)
    · skip
      have hE := ite_t hE c_2
      have ho := ite_tP ho c_2
      refine lv_aload_n X.1 X.2.1 dX12_closes_20 rfl (lv_at hl 0 rfl) ?_
      refine lv_dup X.1 X.2.1 dX12_closes_21 rfl ?_
      refine g12_3 X I (k := 123) (by decide) rfl lf_X12_115 dX12_closes_22 ?_
      refine lv_iconst (v := 1) X.1 X.2.1 dX12_closes_25 (by decide) ?_
      refine lv_iadd X.1 X.2.1 dX12_closes_26 ?_
      refine p12_3 X I (k := 123) (by decide) rfl lf_X12_115 dX12_closes_27 (fun H locs I => ?_)
      refine lv_aload_n X.1 X.2.1 dX12_closes_30 rfl (lv_at hl 0 rfl) ?_
      refine lv_dup X.1 X.2.1 dX12_closes_31 rfl ?_
      refine g12_5 X I (k := 123) (by decide) rfl lf_X12_128 dX12_closes_32 ?_
      refine lv_iconst (v := 1) X.1 X.2.1 dX12_closes_35 (by decide) ?_
      refine lv_isub X.1 X.2.1 dX12_closes_36 ?_
      refine p12_5 X I (k := 123) (by decide) rfl lf_X12_128 dX12_closes_37 (fun H locs I => ?_)
      have h9 := hE
      exact r_vret X I (e_v h9.symm rfl) dX12_closes_40
    · skip
      have hE := ite_f hE c_2
      have ho := ite_fP ho c_2
      refine lv_aload_n X.1 X.2.1 dX12_closes_16 rfl (lv_at hl 0 rfl) ?_
      refine r_ev I (r_runV X I pk_X12_bad (c12_bad l G _ _) lm_X12_131 (by decide) (cl_12 rfl) rfl rfl rfl hl.1 rfl (Nat.le_of_ble_eq_true rfl) dX12_closes_17 ⟨Nat.le_of_ble_eq_true rfl, Nat.le_of_ble_eq_true rfl⟩ ⟨Nat.le_refl 0, Nat.le_refl 0⟩) (fun H locs I => ?_)
      refine lv_aload_n X.1 X.2.1 dX12_closes_20 rfl (lv_at hl 0 rfl) ?_
      refine lv_dup X.1 X.2.1 dX12_closes_21 rfl ?_
      refine g12_3 X I (k := 123) (by decide) rfl lf_X12_115 dX12_closes_22 ?_
      refine lv_iconst (v := 1) X.1 X.2.1 dX12_closes_25 (by decide) ?_
      refine lv_iadd X.1 X.2.1 dX12_closes_26 ?_
      refine p12_3 X I (k := 123) (by decide) rfl lf_X12_115 dX12_closes_27 (fun H locs I => ?_)
      refine lv_aload_n X.1 X.2.1 dX12_closes_30 rfl (lv_at hl 0 rfl) ?_
      refine lv_dup X.1 X.2.1 dX12_closes_31 rfl ?_
      refine g12_5 X I (k := 123) (by decide) rfl lf_X12_128 dX12_closes_32 ?_
      refine lv_iconst (v := 1) X.1 X.2.1 dX12_closes_35 (by decide) ?_
      refine lv_isub X.1 X.2.1 dX12_closes_36 ?_
      refine p12_5 X I (k := 123) (by decide) rfl lf_X12_128 dX12_closes_37 (fun H locs I => ?_)
      have h9 := hE
      exact r_vret X I (e_v h9.symm rfl) dX12_closes_40
noncomputable def f12_plainNumber_c4 : Nat → Int32 → Int32 → SI → (Int32 × SI)
  | 0, _, _, σ => (0, σ)
  | fu + 1, v1, v2, σ => if (4 : Int32) ≤ v2 then (if (f12_isDigit (f12_here σ)) = true then (let s0 := (f12_bad σ); (v1, s0)) else (v1, σ)) else (if (f12_isDigit (f12_here σ)) = true then (let s2 := sp σ 123 3 ((σ 123 3) + (1 : Int32)); (f12_plainNumber_c4 fu ((((10 : Int32) * v1) + (f12_here σ)) - (48 : Int32)) (v2 + 1) s2)) else (if (f12_isDigit (f12_here σ)) = true then (let s1 := (f12_bad σ); (v1, s1)) else (v1, σ)))
noncomputable def o12_plainNumber_c4 : Nat → Int32 → Int32 → SI → Prop
  | 0, _, _, _ => True
  | fu + 1, v1, v2, σ => if (4 : Int32) ≤ v2 then ((o12_here σ) ∧ (if (f12_isDigit (f12_here σ)) = true then (let s0 := (f12_bad σ); True) else True)) else ((o12_here σ) ∧ (if (f12_isDigit (f12_here σ)) = true then ((o12_here σ) ∧ (let s2 := sp σ 123 3 ((σ 123 3) + (1 : Int32)); (o12_plainNumber_c4 fu ((((10 : Int32) * v1) + (f12_here σ)) - (48 : Int32)) (v2 + 1) s2))) else ((o12_here σ) ∧ (if (f12_isDigit (f12_here σ)) = true then (let s1 := (f12_bad σ); True) else True))))
noncomputable def f12_plainNumber (σ : SI) : Int32 × SI := (f12_plainNumber_c4 (fu1 ((Int32.toInt (4 : Int32) - Int32.toInt (0 : Int32)).toNat)) (0 : Int32) (0 : Int32) σ)
noncomputable def o12_plainNumber (σ : SI) : Prop := (o12_plainNumber_c4 (fu1 ((Int32.toInt (4 : Int32) - Int32.toInt (0 : Int32)).toNat)) (0 : Int32) (0 : Int32) σ)
theorem w_f12_plainNumber_c4 (a : Nat) (h0 : a ≠ 123) : ∀ (fu : Nat) (v1 : Int32) (v2 : Int32) (σ : SI), (f12_plainNumber_c4 fu v1 v2 σ).2 a = σ a := by
  intro fu
  induction fu with
  | zero => intro v1 v2 σ; exact rfl
  | succ fu ih =>
    intro v1 v2 σ
    refine fp_to2 ?_
    unfold f12_plainNumber_c4
    exact (fr_ite2 (fr_ite2 (fr_mk21 (w_f12_bad _ a h0)) (fr_mk21 rfl)) (fr_ite2 (fp_of2 (((ih _ _ _).trans (sp_n h0)))) (fr_ite2 (fr_mk21 (w_f12_bad _ a h0)) (fr_mk21 rfl))))
theorem w_f12_plainNumber (σ : SI) (a : Nat) (h0 : a ≠ 123) : (f12_plainNumber σ).2 a = σ a := by
  refine fp_to2 ?_
  unfold f12_plainNumber
  exact (fp_of2 ((w_f12_plainNumber_c4 a h0 _ _ _ _)))
set_option maxHeartbeats 4000000 in
set_option maxRecDepth 100000 in
theorem c12_plainNumber_c4 {l : Launch} {p : Program} {e : Env} {s : State} {m : MethodId} {args : Array Value} {below : List Frame} {meth : Method} {c : Code} {G : GT} (X : CX p s m args meth c cX12_plainNumber RX12 3 (some .int) G) {E : Int32 × SI} (τ : SL) : ∀ (fu : Nat) (v1 : Int32) (v2 : Int32) (σ : SI) (H : Heap) (locs : List Loc) (ls : Array Slot), IX G s H locs σ τ → lv_has ls 3 [(0, .ref (G.2.1 123)), (1, .int v1), (2, .int v2)] → (o12_plainNumber_c4 fu v1 v2 σ) → (Int32.toInt (4 : Int32) - Int32.toInt v2).toNat < fu → E = (f12_plainNumber_c4 fu v1 v2 σ) → W p l e (rmN 1) s m args below meth c H locs 0 0 (MQ below ((Qi G (Ei E.1 E.2 τ)) s.heap.size) args s 0 0 (AW G s.heap.size)) (F0 m 4 ls []) := by
  intro fu
  induction fu with
  | zero =>
    intro v1 v2 σ H locs ls I hl  ho hm hE
    exact absurd hm (Nat.not_lt_zero _)
  | succ fu ih =>
    intro v1 v2 σ H locs ls I hl  ho hm hE
    unfold o12_plainNumber_c4 at ho
    refine lv_iload_n X.1 X.2.1 dX12_plainNumber_4 rfl (lv_at hl 2 rfl) ?_
    refine lv_iconst (v := 4) X.1 X.2.1 dX12_plainNumber_5 (by decide) ?_
    refine lv_icmp_ge (tgt := 48) X.1 X.2.1 dX12_plainNumber_6 (by decide) (fun c_1 => ?_) (fun c_1 => ?_)
    · skip
      have hE := ite_t hE c_1
      have ho := ite_tP ho c_1
      refine lv_aload_n X.1 X.2.1 dX12_plainNumber_48 rfl (lv_at hl 0 rfl) ?_
      have ho1 := ho.1
      have ho := ho.2
      refine r_ei I (r_runV X I pk_X12_here (c12_here l G _ _ ho1) lm_X12_118 (by decide) (cl_12 rfl) rfl rfl rfl hl.1 rfl (Nat.le_of_ble_eq_true rfl) dX12_plainNumber_49 ⟨Nat.le_of_ble_eq_true rfl, Nat.le_of_ble_eq_true rfl⟩ ⟨Nat.le_refl 0, Nat.le_refl 0⟩) (fun H locs I => ?_)
      refine r_ei I (r_runS X I pk_X12_isDigit (c12_isDigit l G _ _ _) lm_X12_137 rfl hl.1 rfl (Nat.le_of_ble_eq_true rfl) dX12_plainNumber_52 ⟨Nat.le_of_ble_eq_true rfl, Nat.le_of_ble_eq_true rfl⟩ ⟨Nat.le_refl 0, Nat.le_refl 0⟩) (fun H locs I => ?_)
      refine lv_if_eq (tgt := 62) X.1 X.2.1 dX12_plainNumber_55 (by decide) (fun c_2 => ?_) (fun c_2 => ?_)
      · skip
        have hE := ite_f hE (b2i_n c_2)
        have ho := ite_fP ho (b2i_n c_2)
        refine lv_iload_n X.1 X.2.1 dX12_plainNumber_62 rfl (lv_at hl 1 rfl) ?_
        have h9 := hE
        exact r_iret X I (e_i (pr_fst h9) (pr_snd h9) rfl) dX12_plainNumber_63
      · skip
        have hE := ite_t hE (b2i_y c_2)
        have ho := ite_tP ho (b2i_y c_2)
        refine lv_aload_n X.1 X.2.1 dX12_plainNumber_58 rfl (lv_at hl 0 rfl) ?_
        refine r_ev I (r_runV X I pk_X12_bad (c12_bad l G _ _) lm_X12_131 (by decide) (cl_12 rfl) rfl rfl rfl hl.1 rfl (Nat.le_of_ble_eq_true rfl) dX12_plainNumber_59 ⟨Nat.le_of_ble_eq_true rfl, Nat.le_of_ble_eq_true rfl⟩ ⟨Nat.le_refl 0, Nat.le_refl 0⟩) (fun H locs I => ?_)
        refine lv_iload_n X.1 X.2.1 dX12_plainNumber_62 rfl (lv_at hl 1 rfl) ?_
        have h9 := hE
        exact r_iret X I (e_i (pr_fst h9) (pr_snd h9) rfl) dX12_plainNumber_63
    · skip
      have hE := ite_f hE c_1
      have ho := ite_fP ho c_1
      refine lv_aload_n X.1 X.2.1 dX12_plainNumber_9 rfl (lv_at hl 0 rfl) ?_
      have ho2 := ho.1
      have ho := ho.2
      refine r_ei I (r_runV X I pk_X12_here (c12_here l G _ _ ho2) lm_X12_118 (by decide) (cl_12 rfl) rfl rfl rfl hl.1 rfl (Nat.le_of_ble_eq_true rfl) dX12_plainNumber_10 ⟨Nat.le_of_ble_eq_true rfl, Nat.le_of_ble_eq_true rfl⟩ ⟨Nat.le_refl 0, Nat.le_refl 0⟩) (fun H locs I => ?_)
      refine r_ei I (r_runS X I pk_X12_isDigit (c12_isDigit l G _ _ _) lm_X12_137 rfl hl.1 rfl (Nat.le_of_ble_eq_true rfl) dX12_plainNumber_13 ⟨Nat.le_of_ble_eq_true rfl, Nat.le_of_ble_eq_true rfl⟩ ⟨Nat.le_refl 0, Nat.le_refl 0⟩) (fun H locs I => ?_)
      refine lv_if_eq (tgt := 48) X.1 X.2.1 dX12_plainNumber_16 (by decide) (fun c_3 => ?_) (fun c_3 => ?_)
      · skip
        have hE := ite_f hE (b2i_n c_3)
        have ho := ite_fP ho (b2i_n c_3)
        refine lv_aload_n X.1 X.2.1 dX12_plainNumber_48 rfl (lv_at hl 0 rfl) ?_
        have ho3 := ho.1
        have ho := ho.2
        refine r_ei I (r_runV X I pk_X12_here (c12_here l G _ _ ho3) lm_X12_118 (by decide) (cl_12 rfl) rfl rfl rfl hl.1 rfl (Nat.le_of_ble_eq_true rfl) dX12_plainNumber_49 ⟨Nat.le_of_ble_eq_true rfl, Nat.le_of_ble_eq_true rfl⟩ ⟨Nat.le_refl 0, Nat.le_refl 0⟩) (fun H locs I => ?_)
        refine r_ei I (r_runS X I pk_X12_isDigit (c12_isDigit l G _ _ _) lm_X12_137 rfl hl.1 rfl (Nat.le_of_ble_eq_true rfl) dX12_plainNumber_52 ⟨Nat.le_of_ble_eq_true rfl, Nat.le_of_ble_eq_true rfl⟩ ⟨Nat.le_refl 0, Nat.le_refl 0⟩) (fun H locs I => ?_)
        refine lv_if_eq (tgt := 62) X.1 X.2.1 dX12_plainNumber_55 (by decide) (fun c_4 => ?_) (fun c_4 => ?_)
        · skip
          have hE := ite_f hE (b2i_n c_4)
          have ho := ite_fP ho (b2i_n c_4)
          refine lv_iload_n X.1 X.2.1 dX12_plainNumber_62 rfl (lv_at hl 1 rfl) ?_
          have h9 := hE
          exact r_iret X I (e_i (pr_fst h9) (pr_snd h9) rfl) dX12_plainNumber_63
        · skip
          have hE := ite_t hE (b2i_y c_4)
          have ho := ite_tP ho (b2i_y c_4)
          refine lv_aload_n X.1 X.2.1 dX12_plainNumber_58 rfl (lv_at hl 0 rfl) ?_
          refine r_ev I (r_runV X I pk_X12_bad (c12_bad l G _ _) lm_X12_131 (by decide) (cl_12 rfl) rfl rfl rfl hl.1 rfl (Nat.le_of_ble_eq_true rfl) dX12_plainNumber_59 ⟨Nat.le_of_ble_eq_true rfl, Nat.le_of_ble_eq_true rfl⟩ ⟨Nat.le_refl 0, Nat.le_refl 0⟩) (fun H locs I => ?_)
          refine lv_iload_n X.1 X.2.1 dX12_plainNumber_62 rfl (lv_at hl 1 rfl) ?_
          have h9 := hE
          exact r_iret X I (e_i (pr_fst h9) (pr_snd h9) rfl) dX12_plainNumber_63
      · skip
        have hE := ite_t hE (b2i_y c_3)
        have ho := ite_tP ho (b2i_y c_3)
        refine lv_bipush (v := 10) X.1 X.2.1 dX12_plainNumber_19 (by decide) ?_
        refine lv_iload_n X.1 X.2.1 dX12_plainNumber_21 rfl (lv_at hl 1 rfl) ?_
        refine lv_imul X.1 X.2.1 dX12_plainNumber_22 ?_
        refine lv_aload_n X.1 X.2.1 dX12_plainNumber_23 rfl (lv_at hl 0 rfl) ?_
        have ho4 := ho.1
        have ho := ho.2
        refine r_ei I (r_runV X I pk_X12_here (c12_here l G _ _ ho4) lm_X12_118 (by decide) (cl_12 rfl) rfl rfl rfl hl.1 rfl (Nat.le_of_ble_eq_true rfl) dX12_plainNumber_24 ⟨Nat.le_of_ble_eq_true rfl, Nat.le_of_ble_eq_true rfl⟩ ⟨Nat.le_refl 0, Nat.le_refl 0⟩) (fun H locs I => ?_)
        refine lv_iadd X.1 X.2.1 dX12_plainNumber_27 ?_
        refine lv_bipush (v := 48) X.1 X.2.1 dX12_plainNumber_28 (by decide) ?_
        refine lv_isub X.1 X.2.1 dX12_plainNumber_30 ?_
        refine lv_istore_n (lv' := [(1, .int _), (0, .ref _), (2, .int _)]) X.1 X.2.1 dX12_plainNumber_31 rfl hl (by decide) rfl (fun ls hl => ?_)
        refine lv_aload_n X.1 X.2.1 dX12_plainNumber_32 rfl (lv_at hl 1 rfl) ?_
        refine lv_dup X.1 X.2.1 dX12_plainNumber_33 rfl ?_
        refine g12_3 X I (k := 123) (by decide) rfl lf_X12_115 dX12_plainNumber_34 ?_
        refine lv_iconst (v := 1) X.1 X.2.1 dX12_plainNumber_37 (by decide) ?_
        refine lv_iadd X.1 X.2.1 dX12_plainNumber_38 ?_
        refine p12_3 X I (k := 123) (by decide) rfl lf_X12_115 dX12_plainNumber_39 (fun H locs I => ?_)
        refine lv_iinc (v := _ + 1) (lv' := [(2, .int _), (1, .int _), (0, .ref _)]) X.1 X.2.1 dX12_plainNumber_42 hl (k := 2) rfl rfl (by decide) rfl (fun ls hl => ?_)
        refine lv_goto (tgt := 4) X.1 X.2.1 dX12_plainNumber_45 (by decide) ?_
        exact ih _ _ _ _ _ _ I (lv_sub hl [2, 1, 0] rfl) ho (Nat.lt_of_lt_of_le (up_dec c_1) (Nat.le_of_lt_succ hm)) (hE.trans (rfl))
set_option maxHeartbeats 4000000 in
set_option maxRecDepth 100000 in
theorem c12_plainNumber (l : Launch) (G : GT) (σ : SI) (τ : SL) (ho : o12_plainNumber σ) : Mc l yX12_plainNumber cX12_plainNumber 3 (some .int) 1 G [.ref (G.2.1 123)] σ τ (Qi G (Ei (f12_plainNumber σ).1 (f12_plainNumber σ).2 τ)) := by
  refine m_start (by decide +kernel) (Nat.le_of_ble_eq_true rfl) rfl (fun p e s m args below meth c ls X I hl => ?_)
  have hl : lv_has ls 3 [(0, .ref (G.2.1 123))] := hl
  obtain ⟨E, hE⟩ : ∃ E, E = (f12_plainNumber σ) := ⟨_, rfl⟩
  rw [← hE]
  unfold o12_plainNumber at ho
  refine lv_iconst (v := 0) X.1 X.2.1 dX12_plainNumber_0 (by decide) ?_
  refine lv_istore_n (lv' := [(1, .int _), (0, .ref _)]) X.1 X.2.1 dX12_plainNumber_1 rfl hl (by decide) rfl (fun ls hl => ?_)
  refine lv_iconst (v := 0) X.1 X.2.1 dX12_plainNumber_2 (by decide) ?_
  refine lv_istore_n (lv' := [(2, .int _), (1, .int _), (0, .ref _)]) X.1 X.2.1 dX12_plainNumber_3 rfl hl (by decide) rfl (fun ls hl => ?_)
  exact c12_plainNumber_c4 X _  _ _ _ _ _ _ _ I (lv_sub hl [2, 1, 0] rfl) ho (fu1_lt _) (hE.trans (rfl))
noncomputable def f12_atom (S : SI → SI) (σ : SI) : SI := let r0 := (f12_look σ); if (f12_isDigit r0.1) = true then (let r7 := (f12_plainNumber r0.2); let s8 := (f12_put r7.2 (0 : Int32) r7.1); s8) else (if (f12_letterOf r0.1) = (-1 : Int32) then (if r0.1 = (91 : Int32) then (let s2 := (f12_opens r0.2); if (s2 123 4) = (-1 : Int32) then (let s3 := (S s2); let s4 := (f12_closes s3 (93 : Int32)); s4) else s2) else (let s1 := (f12_bad r0.2); s1)) else (let s5 := sp r0.2 123 3 ((r0.2 123 3) + (1 : Int32)); let s6 := (f12_put s5 (1 : Int32) (f12_letterOf r0.1)); s6))
noncomputable def o12_atom (S : SI → SI) (oS : SI → Prop) (σ : SI) : Prop := (o12_look σ) ∧ (let r0 := (f12_look σ); if (f12_isDigit r0.1) = true then ((o12_plainNumber r0.2) ∧ (let r7 := (f12_plainNumber r0.2); (o12_put r7.2 (0 : Int32) r7.1) ∧ (let s8 := (f12_put r7.2 (0 : Int32) r7.1); True))) else (if (f12_letterOf r0.1) = (-1 : Int32) then (if r0.1 = (91 : Int32) then (let s2 := (f12_opens r0.2); if (s2 123 4) = (-1 : Int32) then ((oS s2) ∧ (let s3 := (S s2); (o12_closes s3 (93 : Int32)) ∧ (let s4 := (f12_closes s3 (93 : Int32)); True))) else True) else (let s1 := (f12_bad r0.2); True)) else (let s5 := sp r0.2 123 3 ((r0.2 123 3) + (1 : Int32)); (o12_put s5 (1 : Int32) (f12_letterOf r0.1)) ∧ (let s6 := (f12_put s5 (1 : Int32) (f12_letterOf r0.1)); True))))
theorem w_f12_atom {S : SI → SI} (hSf : ∀ (σ : SI)  (b : Nat), b ≠ 123 → b ≠ 125 → b ≠ 126 → b ≠ 127 → (S σ ) b = σ b) (σ : SI) (a : Nat) (h0 : a ≠ 123) (h1 : a ≠ 125) (h2 : a ≠ 126) (h3 : a ≠ 127) : (f12_atom S σ) a = σ a := by
  unfold f12_atom
  exact (fr_ite ((w_f12_put _ _ _ a h1 h2 h3).trans ((w_f12_plainNumber _ a h0).trans (w_f12_look _ a h0))) (fr_ite (fr_ite (fr_ite ((w_f12_closes _ _ a h0).trans ((hSf _ a h0 h1 h2 h3).trans ((w_f12_opens _ a h0).trans (w_f12_look _ a h0)))) ((w_f12_opens _ a h0).trans (w_f12_look _ a h0))) ((w_f12_bad _ a h0).trans (w_f12_look _ a h0))) ((w_f12_put _ _ _ a h1 h2 h3).trans ((sp_n h0).trans (w_f12_look _ a h0)))))
set_option maxHeartbeats 4000000 in
set_option maxRecDepth 100000 in
theorem c12_atom (l : Launch) (G : GT) {S : SI → SI} {oS : SI → Prop} {D : Nat} (hS : ∀ (σ : SI) (τ : SL) , oS σ  → Mc l yX12_sum cX12_sum 2 none (20 + 3 * D) G [.ref (G.2.1 123)] σ τ (Qv G (Ev (S σ ) τ))) (σ : SI) (τ : SL) (ho : o12_atom S oS σ) : Mc l yX12_atom cX12_atom 2 none (20 + 3 * D + 1) G [.ref (G.2.1 123)] σ τ (Qv G (Ev (f12_atom S σ) τ)) := by
  refine m_start (by decide +kernel) (Nat.le_of_ble_eq_true rfl) rfl (fun p e s m args below meth c ls X I hl => ?_)
  have hl : lv_has ls 2 [(0, .ref (G.2.1 123))] := hl
  obtain ⟨E, hE⟩ : ∃ E, E = (f12_atom S σ) := ⟨_, rfl⟩
  rw [← hE]
  unfold o12_atom at ho
  refine lv_aload_n X.1 X.2.1 dX12_atom_0 rfl (lv_at hl 0 rfl) ?_
  have ho1 := ho.1
  have ho := ho.2
  refine r_ei I (r_runV X I pk_X12_look (c12_look l G _ _ ho1) lm_X12_134 (by decide) (cl_12 rfl) rfl rfl rfl hl.1 rfl (Nat.le_of_ble_eq_true rfl) dX12_atom_1 (hr_le (by omega) (by decide)) ⟨Nat.le_refl 0, Nat.le_refl 0⟩) (fun H locs I => ?_)
  refine lv_istore_n (lv' := [(1, .int _), (0, .ref _)]) X.1 X.2.1 dX12_atom_4 rfl hl (by decide) rfl (fun ls hl => ?_)
  refine lv_iload_n X.1 X.2.1 dX12_atom_5 rfl (lv_at hl 0 rfl) ?_
  refine r_ei I (r_runS X I pk_X12_isDigit (c12_isDigit l G _ _ _) lm_X12_137 rfl hl.1 rfl (Nat.le_of_ble_eq_true rfl) dX12_atom_6 (hr_le (by omega) (by decide)) ⟨Nat.le_refl 0, Nat.le_refl 0⟩) (fun H locs I => ?_)
  refine lv_if_eq (tgt := 24) X.1 X.2.1 dX12_atom_9 (by decide) (fun c_1 => ?_) (fun c_1 => ?_)
  · skip
    have hE := ite_f hE (b2i_n c_1)
    have ho := ite_fP ho (b2i_n c_1)
    refine lv_iload_n X.1 X.2.1 dX12_atom_24 rfl (lv_at hl 0 rfl) ?_
    refine r_ei I (r_runS X I pk_X12_letterOf (c12_letterOf l G _ _ _) lm_X12_148 rfl hl.1 rfl (Nat.le_of_ble_eq_true rfl) dX12_atom_25 (hr_le (by omega) (by decide)) ⟨Nat.le_refl 0, Nat.le_refl 0⟩) (fun H locs I => ?_)
    refine lv_iconst (v := (-1)) X.1 X.2.1 dX12_atom_28 (by decide) ?_
    refine lv_icmp_eq (tgt := 54) X.1 X.2.1 dX12_atom_29 (by decide) (fun c_2 => ?_) (fun c_2 => ?_)
    · skip
      have hE := ite_t hE c_2
      have ho := ite_tP ho c_2
      refine lv_iload_n X.1 X.2.1 dX12_atom_54 rfl (lv_at hl 0 rfl) ?_
      refine lv_bipush (v := 91) X.1 X.2.1 dX12_atom_55 (by decide) ?_
      refine lv_icmp_ne (tgt := 85) X.1 X.2.1 dX12_atom_57 (by decide) (fun c_3 => ?_) (fun c_3 => ?_)
      · skip
        have hE := ite_f hE c_3
        have ho := ite_fP ho c_3
        refine lv_aload_n X.1 X.2.1 dX12_atom_85 rfl (lv_at hl 1 rfl) ?_
        refine r_ev I (r_runV X I pk_X12_bad (c12_bad l G _ _) lm_X12_131 (by decide) (cl_12 rfl) rfl rfl rfl hl.1 rfl (Nat.le_of_ble_eq_true rfl) dX12_atom_86 (hr_le (by omega) (by decide)) ⟨Nat.le_refl 0, Nat.le_refl 0⟩) (fun H locs I => ?_)
        have h9 := hE
        exact r_vret X I (e_v h9.symm rfl) dX12_atom_89
      · skip
        have hE := ite_t hE c_3
        have ho := ite_tP ho c_3
        refine lv_aload_n X.1 X.2.1 dX12_atom_60 rfl (lv_at hl 1 rfl) ?_
        refine r_ev I (r_runV X I pk_X12_opens (c12_opens l G _ _) lm_X12_152 (by decide) (cl_12 rfl) rfl rfl rfl hl.1 rfl (Nat.le_of_ble_eq_true rfl) dX12_atom_61 (hr_le (by omega) (by decide)) ⟨Nat.le_refl 0, Nat.le_refl 0⟩) (fun H locs I => ?_)
        refine lv_aload_n X.1 X.2.1 dX12_atom_64 rfl (lv_at hl 1 rfl) ?_
        refine g12_4 X I (k := 123) (by decide) rfl lf_X12_122 dX12_atom_65 ?_
        refine lv_iconst (v := (-1)) X.1 X.2.1 dX12_atom_68 (by decide) ?_
        refine lv_icmp_ne (tgt := 89) X.1 X.2.1 dX12_atom_69 (by decide) (fun c_4 => ?_) (fun c_4 => ?_)
        · skip
          have hE := ite_f hE c_4
          have ho := ite_fP ho c_4
          have h9 := hE
          exact r_vret X I (e_v h9.symm rfl) dX12_atom_89
        · skip
          have hE := ite_t hE c_4
          have ho := ite_tP ho c_4
          refine lv_aload_n X.1 X.2.1 dX12_atom_72 rfl (lv_at hl 1 rfl) ?_
          have ho2 := ho.1
          have ho := ho.2
          refine r_ev I (r_runV X I pk_X12_sum (hS _ _ ho2) lm_X12_155 (by decide) (cl_12 rfl) rfl rfl rfl hl.1 rfl (Nat.le_of_ble_eq_true rfl) dX12_atom_73 (hr_le (by omega) (by decide)) ⟨Nat.le_refl 0, Nat.le_refl 0⟩) (fun H locs I => ?_)
          refine lv_aload_n X.1 X.2.1 dX12_atom_76 rfl (lv_at hl 1 rfl) ?_
          refine lv_bipush (v := 93) X.1 X.2.1 dX12_atom_77 (by decide) ?_
          have ho3 := ho.1
          have ho := ho.2
          refine r_ev I (r_runV X I pk_X12_closes (c12_closes l G _ _ _ ho3) lm_X12_158 (by decide) (cl_12 rfl) rfl rfl rfl hl.1 rfl (Nat.le_of_ble_eq_true rfl) dX12_atom_79 (hr_le (by omega) (by decide)) ⟨Nat.le_refl 0, Nat.le_refl 0⟩) (fun H locs I => ?_)
          refine lv_goto (tgt := 89) X.1 X.2.1 dX12_atom_82 (by decide) ?_
          have h9 := hE
          exact r_vret X I (e_v h9.symm rfl) dX12_atom_89
    · skip
      have hE := ite_f hE c_2
      have ho := ite_fP ho c_2
      refine lv_aload_n X.1 X.2.1 dX12_atom_32 rfl (lv_at hl 1 rfl) ?_
      refine lv_dup X.1 X.2.1 dX12_atom_33 rfl ?_
      refine g12_3 X I (k := 123) (by decide) rfl lf_X12_115 dX12_atom_34 ?_
      refine lv_iconst (v := 1) X.1 X.2.1 dX12_atom_37 (by decide) ?_
      refine lv_iadd X.1 X.2.1 dX12_atom_38 ?_
      refine p12_3 X I (k := 123) (by decide) rfl lf_X12_115 dX12_atom_39 (fun H locs I => ?_)
      refine lv_aload_n X.1 X.2.1 dX12_atom_42 rfl (lv_at hl 1 rfl) ?_
      refine lv_iconst (v := 1) X.1 X.2.1 dX12_atom_43 (by decide) ?_
      refine lv_iload_n X.1 X.2.1 dX12_atom_44 rfl (lv_at hl 0 rfl) ?_
      refine r_ei I (r_runS X I pk_X12_letterOf (c12_letterOf l G _ _ _) lm_X12_148 rfl hl.1 rfl (Nat.le_of_ble_eq_true rfl) dX12_atom_45 (hr_le (by omega) (by decide)) ⟨Nat.le_refl 0, Nat.le_refl 0⟩) (fun H locs I => ?_)
      have ho4 := ho.1
      have ho := ho.2
      refine r_ev I (r_runV X I pk_X12_put (c12_put l G _ _ _ _ ho4) lm_X12_144 (by decide) (cl_12 rfl) rfl rfl rfl hl.1 rfl (Nat.le_of_ble_eq_true rfl) dX12_atom_48 (hr_le (by omega) (by decide)) ⟨Nat.le_refl 0, Nat.le_refl 0⟩) (fun H locs I => ?_)
      refine lv_goto (tgt := 89) X.1 X.2.1 dX12_atom_51 (by decide) ?_
      have h9 := hE
      exact r_vret X I (e_v h9.symm rfl) dX12_atom_89
  · skip
    have hE := ite_t hE (b2i_y c_1)
    have ho := ite_tP ho (b2i_y c_1)
    refine lv_aload_n X.1 X.2.1 dX12_atom_12 rfl (lv_at hl 1 rfl) ?_
    refine lv_iconst (v := 0) X.1 X.2.1 dX12_atom_13 (by decide) ?_
    refine lv_aload_n X.1 X.2.1 dX12_atom_14 rfl (lv_at hl 1 rfl) ?_
    have ho5 := ho.1
    have ho := ho.2
    refine r_ei I (r_runV X I pk_X12_plainNumber (c12_plainNumber l G _ _ ho5) lm_X12_141 (by decide) (cl_12 rfl) rfl rfl rfl hl.1 rfl (Nat.le_of_ble_eq_true rfl) dX12_atom_15 (hr_le (by omega) (by decide)) ⟨Nat.le_refl 0, Nat.le_refl 0⟩) (fun H locs I => ?_)
    have ho6 := ho.1
    have ho := ho.2
    refine r_ev I (r_runV X I pk_X12_put (c12_put l G _ _ _ _ ho6) lm_X12_144 (by decide) (cl_12 rfl) rfl rfl rfl hl.1 rfl (Nat.le_of_ble_eq_true rfl) dX12_atom_18 (hr_le (by omega) (by decide)) ⟨Nat.le_refl 0, Nat.le_refl 0⟩) (fun H locs I => ?_)
    refine lv_goto (tgt := 89) X.1 X.2.1 dX12_atom_21 (by decide) ?_
    have h9 := hE
    exact r_vret X I (e_v h9.symm rfl) dX12_atom_89
