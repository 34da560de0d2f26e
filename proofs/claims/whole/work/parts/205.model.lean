noncomputable def f12_condition (O : SI → SI) (A : SI → SI) (U : SI → SI) (σ : SI) : SI := let s0 := (U σ); let s1 := (A s0); let s2 := (O s1); s2
noncomputable def o12_condition (O : SI → SI) (A : SI → SI) (U : SI → SI) (oU : SI → Prop) (oA : SI → Prop) (oO : SI → Prop) (σ : SI) : Prop := (oU σ) ∧ (let s0 := (U σ); (oA s0) ∧ (let s1 := (A s0); (oO s1) ∧ (let s2 := (O s1); True)))
theorem w_f12_condition {O : SI → SI} {A : SI → SI} {U : SI → SI} (hUf : ∀ (σ : SI)  (b : Nat), b ≠ 123 → b ≠ 125 → b ≠ 126 → b ≠ 127 → (U σ ) b = σ b) (hAf : ∀ (σ : SI)  (b : Nat), b ≠ 123 → b ≠ 125 → b ≠ 126 → b ≠ 127 → (A σ ) b = σ b) (hOf : ∀ (σ : SI)  (b : Nat), b ≠ 123 → b ≠ 125 → b ≠ 126 → b ≠ 127 → (O σ ) b = σ b) (σ : SI) (a : Nat) (h0 : a ≠ 123) (h1 : a ≠ 125) (h2 : a ≠ 126) (h3 : a ≠ 127) : (f12_condition O A U σ) a = σ a := by
  unfold f12_condition
  exact ((hOf _ a h0 h1 h2 h3).trans ((hAf _ a h0 h1 h2 h3).trans (hUf _ a h0 h1 h2 h3)))
set_option maxHeartbeats 4000000 in
set_option maxRecDepth 100000 in
theorem c12_condition (l : Launch) (G : GT) {U : SI → SI} {A : SI → SI} {O : SI → SI} {oU : SI → Prop} {oA : SI → Prop} {oO : SI → Prop} {D : Nat} (hU : ∀ (σ : SI) (τ : SL) , oU σ  → Mc l yX12_unit cX12_unit 2 none (60 + 4 * D) G [.ref (G.2.1 123)] σ τ (Qv G (Ev (U σ ) τ))) (hA : ∀ (σ : SI) (τ : SL) , oA σ  → Mc l yX12_goOnAnd cX12_goOnAnd 1 none (60 + 4 * D + 1) G [.ref (G.2.1 123)] σ τ (Qv G (Ev (A σ ) τ))) (hO : ∀ (σ : SI) (τ : SL) , oO σ  → Mc l yX12_goOnOr cX12_goOnOr 1 none (60 + 4 * D + 2) G [.ref (G.2.1 123)] σ τ (Qv G (Ev (O σ ) τ))) (σ : SI) (τ : SL) (ho : o12_condition O A U oU oA oO σ) : Mc l yX12_condition cX12_condition 1 none (60 + 4 * D + 3) G [.ref (G.2.1 123)] σ τ (Qv G (Ev (f12_condition O A U σ) τ)) := by
  refine m_start (by decide +kernel) (Nat.le_of_ble_eq_true rfl) rfl (fun p e s m args below meth c ls X I hl => ?_)
  have hl : lv_has ls 1 [(0, .ref (G.2.1 123))] := hl
  obtain ⟨E, hE⟩ : ∃ E, E = (f12_condition O A U σ) := ⟨_, rfl⟩
  rw [← hE]
  unfold o12_condition at ho
  refine lv_aload_n X.1 X.2.1 dX12_condition_0 rfl (lv_at hl 0 rfl) ?_
  have ho1 := ho.1
  have ho := ho.2
  refine r_ev I (r_runV X I pk_X12_unit (hU _ _ ho1) lm_X12_171 (by decide) (cl_12 rfl) rfl rfl rfl hl.1 rfl (Nat.le_of_ble_eq_true rfl) dX12_condition_1 (hr_le (by omega) (by decide)) ⟨Nat.le_refl 0, Nat.le_refl 0⟩) (fun H locs I => ?_)
  refine lv_aload_n X.1 X.2.1 dX12_condition_4 rfl (lv_at hl 0 rfl) ?_
  have ho2 := ho.1
  have ho := ho.2
  refine r_ev I (r_runV X I pk_X12_goOnAnd (hA _ _ ho2) lm_X12_180 (by decide) (cl_12 rfl) rfl rfl rfl hl.1 rfl (Nat.le_of_ble_eq_true rfl) dX12_condition_5 (hr_le (by omega) (by decide)) ⟨Nat.le_refl 0, Nat.le_refl 0⟩) (fun H locs I => ?_)
  refine lv_aload_n X.1 X.2.1 dX12_condition_8 rfl (lv_at hl 0 rfl) ?_
  have ho3 := ho.1
  have ho := ho.2
  refine r_ev I (r_runV X I pk_X12_goOnOr (hO _ _ ho3) lm_X12_183 (by decide) (cl_12 rfl) rfl rfl rfl hl.1 rfl (Nat.le_of_ble_eq_true rfl) dX12_condition_9 (hr_le (by omega) (by decide)) ⟨Nat.le_refl 0, Nat.le_refl 0⟩) (fun H locs I => ?_)
  have h9 := hE
  exact r_vret X I (e_v h9.symm rfl) dX12_condition_12
noncomputable def f12_unit (C : SI → SI) (U : SI → SI) (σ : SI) : SI := let r0 := (f12_look σ); if r0.1 = (33 : Int32) then (let s6 := (f12_opens r0.2); if (s6 123 4) = (-1 : Int32) then (let s7 := (U s6); let s8 := (f12_put s7 (9 : Int32) (0 : Int32)); let s9 := sp s8 123 5 ((s8 123 5) - (1 : Int32)); s9) else s6) else (if r0.1 = (40 : Int32) then (let s3 := (f12_opens r0.2); if (s3 123 4) = (-1 : Int32) then (let s4 := (C s3); let s5 := (f12_closes s4 (41 : Int32)); s5) else s3) else (let s1 := (f12_sumR r0.2); if (s1 123 4) = (-1 : Int32) then (let s2 := (f12_compare s1); s2) else s1))
noncomputable def o12_unit (C : SI → SI) (U : SI → SI) (oU : SI → Prop) (oC : SI → Prop) (σ : SI) : Prop := (o12_look σ) ∧ (let r0 := (f12_look σ); if r0.1 = (33 : Int32) then (let s6 := (f12_opens r0.2); if (s6 123 4) = (-1 : Int32) then ((oU s6) ∧ (let s7 := (U s6); (o12_put s7 (9 : Int32) (0 : Int32)) ∧ (let s8 := (f12_put s7 (9 : Int32) (0 : Int32)); let s9 := sp s8 123 5 ((s8 123 5) - (1 : Int32)); True))) else True) else (if r0.1 = (40 : Int32) then (let s3 := (f12_opens r0.2); if (s3 123 4) = (-1 : Int32) then ((oC s3) ∧ (let s4 := (C s3); (o12_closes s4 (41 : Int32)) ∧ (let s5 := (f12_closes s4 (41 : Int32)); True))) else True) else ((o12_sumR r0.2) ∧ (let s1 := (f12_sumR r0.2); if (s1 123 4) = (-1 : Int32) then ((o12_compare s1) ∧ (let s2 := (f12_compare s1); True)) else True))))
theorem w_f12_unit {C : SI → SI} {U : SI → SI} (hUf : ∀ (σ : SI)  (b : Nat), b ≠ 123 → b ≠ 125 → b ≠ 126 → b ≠ 127 → (U σ ) b = σ b) (hCf : ∀ (σ : SI)  (b : Nat), b ≠ 123 → b ≠ 125 → b ≠ 126 → b ≠ 127 → (C σ ) b = σ b) (σ : SI) (a : Nat) (h0 : a ≠ 123) (h1 : a ≠ 125) (h2 : a ≠ 126) (h3 : a ≠ 127) : (f12_unit C U σ) a = σ a := by
  unfold f12_unit
  exact (fr_ite (fr_ite ((sp_n h0).trans ((w_f12_put _ _ _ a h1 h2 h3).trans ((hUf _ a h0 h1 h2 h3).trans ((w_f12_opens _ a h0).trans (w_f12_look _ a h0))))) ((w_f12_opens _ a h0).trans (w_f12_look _ a h0))) (fr_ite (fr_ite ((w_f12_closes _ _ a h0).trans ((hCf _ a h0 h1 h2 h3).trans ((w_f12_opens _ a h0).trans (w_f12_look _ a h0)))) ((w_f12_opens _ a h0).trans (w_f12_look _ a h0))) (fr_ite ((w_f12_compare _ a h0 h1 h2 h3).trans ((w_f12_sumR _ a h0 h1 h2 h3).trans (w_f12_look _ a h0))) ((w_f12_sumR _ a h0 h1 h2 h3).trans (w_f12_look _ a h0)))))
set_option maxHeartbeats 4000000 in
set_option maxRecDepth 100000 in
theorem c12_unit (l : Launch) (G : GT) {U : SI → SI} {C : SI → SI} {oU : SI → Prop} {oC : SI → Prop} {D : Nat} (hU : ∀ (σ : SI) (τ : SL) , oU σ  → Mc l yX12_unit cX12_unit 2 none (60 + 4 * D) G [.ref (G.2.1 123)] σ τ (Qv G (Ev (U σ ) τ))) (hC : ∀ (σ : SI) (τ : SL) , oC σ  → Mc l yX12_condition cX12_condition 1 none (60 + 4 * D + 3) G [.ref (G.2.1 123)] σ τ (Qv G (Ev (C σ ) τ))) (σ : SI) (τ : SL) (ho : o12_unit C U oU oC σ) : Mc l yX12_unit cX12_unit 2 none (60 + 4 * D + 4) G [.ref (G.2.1 123)] σ τ (Qv G (Ev (f12_unit C U σ) τ)) := by
  refine m_start (by decide +kernel) (Nat.le_of_ble_eq_true rfl) rfl (fun p e s m args below meth c ls X I hl => ?_)
  have hl : lv_has ls 2 [(0, .ref (G.2.1 123))] := hl
  obtain ⟨E, hE⟩ : ∃ E, E = (f12_unit C U σ) := ⟨_, rfl⟩
  rw [← hE]
  unfold o12_unit at ho
  refine lv_aload_n X.1 X.2.1 dX12_unit_0 rfl (lv_at hl 0 rfl) ?_
  have ho1 := ho.1
  have ho := ho.2
  refine r_ei I (r_runV X I pk_X12_look (c12_look l G _ _ ho1) lm_X12_134 (by decide) (cl_12 rfl) rfl rfl rfl hl.1 rfl (Nat.le_of_ble_eq_true rfl) dX12_unit_1 (hr_le (by omega) (by decide)) ⟨Nat.le_refl 0, Nat.le_refl 0⟩) (fun H locs I => ?_)
  refine lv_istore_n (lv' := [(1, .int _), (0, .ref _)]) X.1 X.2.1 dX12_unit_4 rfl hl (by decide) rfl (fun ls hl => ?_)
  refine lv_iload_n X.1 X.2.1 dX12_unit_5 rfl (lv_at hl 0 rfl) ?_
  refine lv_bipush (v := 33) X.1 X.2.1 dX12_unit_6 (by decide) ?_
  refine lv_icmp_ne (tgt := 47) X.1 X.2.1 dX12_unit_8 (by decide) (fun c_1 => ?_) (fun c_1 => ?_)
  · skip
    have hE := ite_f hE c_1
    have ho := ite_fP ho c_1
    refine lv_iload_n X.1 X.2.1 dX12_unit_47 rfl (lv_at hl 0 rfl) ?_
    refine lv_bipush (v := 40) X.1 X.2.1 dX12_unit_48 (by decide) ?_
    refine lv_icmp_ne (tgt := 78) X.1 X.2.1 dX12_unit_50 (by decide) (fun c_2 => ?_) (fun c_2 => ?_)
    · skip
      have hE := ite_f hE c_2
      have ho := ite_fP ho c_2
      refine lv_aload_n X.1 X.2.1 dX12_unit_78 rfl (lv_at hl 1 rfl) ?_
      have ho2 := ho.1
      have ho := ho.2
      refine r_ev I (r_runV X I pk_X12_sum (c12_sumR l G _ _ ho2) lm_X12_155 (by decide) (cl_12 rfl) rfl rfl rfl hl.1 rfl (Nat.le_of_ble_eq_true rfl) dX12_unit_79 (hr_le (by omega) (by decide)) ⟨Nat.le_refl 0, Nat.le_refl 0⟩) (fun H locs I => ?_)
      refine lv_aload_n X.1 X.2.1 dX12_unit_82 rfl (lv_at hl 1 rfl) ?_
      refine g12_4 X I (k := 123) (by decide) rfl lf_X12_122 dX12_unit_83 ?_
      refine lv_iconst (v := (-1)) X.1 X.2.1 dX12_unit_86 (by decide) ?_
      refine lv_icmp_ne (tgt := 94) X.1 X.2.1 dX12_unit_87 (by decide) (fun c_3 => ?_) (fun c_3 => ?_)
      · skip
        have hE := ite_f hE c_3
        have ho := ite_fP ho c_3
        have h9 := hE
        exact r_vret X I (e_v h9.symm rfl) dX12_unit_94
      · skip
        have hE := ite_t hE c_3
        have ho := ite_tP ho c_3
        refine lv_aload_n X.1 X.2.1 dX12_unit_90 rfl (lv_at hl 1 rfl) ?_
        have ho3 := ho.1
        have ho := ho.2
        refine r_ev I (r_runV X I pk_X12_compare (c12_compare l G _ _ ho3) lm_X12_177 (by decide) (cl_12 rfl) rfl rfl rfl hl.1 rfl (Nat.le_of_ble_eq_true rfl) dX12_unit_91 (hr_le (by omega) (by decide)) ⟨Nat.le_refl 0, Nat.le_refl 0⟩) (fun H locs I => ?_)
        have h9 := hE
        exact r_vret X I (e_v h9.symm rfl) dX12_unit_94
    · skip
      have hE := ite_t hE c_2
      have ho := ite_tP ho c_2
      refine lv_aload_n X.1 X.2.1 dX12_unit_53 rfl (lv_at hl 1 rfl) ?_
      refine r_ev I (r_runV X I pk_X12_opens (c12_opens l G _ _) lm_X12_152 (by decide) (cl_12 rfl) rfl rfl rfl hl.1 rfl (Nat.le_of_ble_eq_true rfl) dX12_unit_54 (hr_le (by omega) (by decide)) ⟨Nat.le_refl 0, Nat.le_refl 0⟩) (fun H locs I => ?_)
      refine lv_aload_n X.1 X.2.1 dX12_unit_57 rfl (lv_at hl 1 rfl) ?_
      refine g12_4 X I (k := 123) (by decide) rfl lf_X12_122 dX12_unit_58 ?_
      refine lv_iconst (v := (-1)) X.1 X.2.1 dX12_unit_61 (by decide) ?_
      refine lv_icmp_ne (tgt := 94) X.1 X.2.1 dX12_unit_62 (by decide) (fun c_4 => ?_) (fun c_4 => ?_)
      · skip
        have hE := ite_f hE c_4
        have ho := ite_fP ho c_4
        have h9 := hE
        exact r_vret X I (e_v h9.symm rfl) dX12_unit_94
      · skip
        have hE := ite_t hE c_4
        have ho := ite_tP ho c_4
        refine lv_aload_n X.1 X.2.1 dX12_unit_65 rfl (lv_at hl 1 rfl) ?_
        have ho4 := ho.1
        have ho := ho.2
        refine r_ev I (r_runV X I pk_X12_condition (hC _ _ ho4) lm_X12_174 (by decide) (cl_12 rfl) rfl rfl rfl hl.1 rfl (Nat.le_of_ble_eq_true rfl) dX12_unit_66 (hr_le (by omega) (by decide)) ⟨Nat.le_refl 0, Nat.le_refl 0⟩) (fun H locs I => ?_)
        refine lv_aload_n X.1 X.2.1 dX12_unit_69 rfl (lv_at hl 1 rfl) ?_
        refine lv_bipush (v := 41) X.1 X.2.1 dX12_unit_70 (by decide) ?_
        have ho5 := ho.1
        have ho := ho.2
        refine r_ev I (r_runV X I pk_X12_closes (c12_closes l G _ _ _ ho5) lm_X12_158 (by decide) (cl_12 rfl) rfl rfl rfl hl.1 rfl (Nat.le_of_ble_eq_true rfl) dX12_unit_72 (hr_le (by omega) (by decide)) ⟨Nat.le_refl 0, Nat.le_refl 0⟩) (fun H locs I => ?_)
        refine lv_goto (tgt := 94) X.1 X.2.1 dX12_unit_75 (by decide) ?_
        have h9 := hE
        exact r_vret X I (e_v h9.symm rfl) dX12_unit_94
  · skip
    have hE := ite_t hE c_1
    have ho := ite_tP ho c_1
    refine lv_aload_n X.1 X.2.1 dX12_unit_11 rfl (lv_at hl 1 rfl) ?_
    refine r_ev I (r_runV X I pk_X12_opens (c12_opens l G _ _) lm_X12_152 (by decide) (cl_12 rfl) rfl rfl rfl hl.1 rfl (Nat.le_of_ble_eq_true rfl) dX12_unit_12 (hr_le (by omega) (by decide)) ⟨Nat.le_refl 0, Nat.le_refl 0⟩) (fun H locs I => ?_)
    refine lv_aload_n X.1 X.2.1 dX12_unit_15 rfl (lv_at hl 1 rfl) ?_
    refine g12_4 X I (k := 123) (by decide) rfl lf_X12_122 dX12_unit_16 ?_
    refine lv_iconst (v := (-1)) X.1 X.2.1 dX12_unit_19 (by decide) ?_
    refine lv_icmp_ne (tgt := 94) X.1 X.2.1 dX12_unit_20 (by decide) (fun c_5 => ?_) (fun c_5 => ?_)
    · skip
      have hE := ite_f hE c_5
      have ho := ite_fP ho c_5
      have h9 := hE
      exact r_vret X I (e_v h9.symm rfl) dX12_unit_94
    · skip
      have hE := ite_t hE c_5
      have ho := ite_tP ho c_5
      refine lv_aload_n X.1 X.2.1 dX12_unit_23 rfl (lv_at hl 1 rfl) ?_
      have ho6 := ho.1
      have ho := ho.2
      refine r_ev I (r_runV X I pk_X12_unit (hU _ _ ho6) lm_X12_171 (by decide) (cl_12 rfl) rfl rfl rfl hl.1 rfl (Nat.le_of_ble_eq_true rfl) dX12_unit_24 (hr_le (by omega) (by decide)) ⟨Nat.le_refl 0, Nat.le_refl 0⟩) (fun H locs I => ?_)
      refine lv_aload_n X.1 X.2.1 dX12_unit_27 rfl (lv_at hl 1 rfl) ?_
      refine lv_bipush (v := 9) X.1 X.2.1 dX12_unit_28 (by decide) ?_
      refine lv_iconst (v := 0) X.1 X.2.1 dX12_unit_30 (by decide) ?_
      have ho7 := ho.1
      have ho := ho.2
      refine r_ev I (r_runV X I pk_X12_put (c12_put l G _ _ _ _ ho7) lm_X12_144 (by decide) (cl_12 rfl) rfl rfl rfl hl.1 rfl (Nat.le_of_ble_eq_true rfl) dX12_unit_31 (hr_le (by omega) (by decide)) ⟨Nat.le_refl 0, Nat.le_refl 0⟩) (fun H locs I => ?_)
      refine lv_aload_n X.1 X.2.1 dX12_unit_34 rfl (lv_at hl 1 rfl) ?_
      refine lv_dup X.1 X.2.1 dX12_unit_35 rfl ?_
      refine g12_5 X I (k := 123) (by decide) rfl lf_X12_128 dX12_unit_36 ?_
      refine lv_iconst (v := 1) X.1 X.2.1 dX12_unit_39 (by decide) ?_
      refine lv_isub X.1 X.2.1 dX12_unit_40 ?_
      refine p12_5 X I (k := 123) (by decide) rfl lf_X12_128 dX12_unit_41 (fun H locs I => ?_)
      refine lv_goto (tgt := 94) X.1 X.2.1 dX12_unit_44 (by decide) ?_
      have h9 := hE
      exact r_vret X I (e_v h9.symm rfl) dX12_unit_94
noncomputable def fmUnitD : Nat → SI → SI
  | 0 => fun σ => σ
  | D + 1 => fun σ => f12_unit (f12_condition (f12_goOnOr (f12_goOnAnd (fmUnitD D)) (fmUnitD D)) (f12_goOnAnd (fmUnitD D)) (fmUnitD D)) (fmUnitD D) σ
noncomputable def omUnitD : Nat → SI → Prop
  | 0 => fun _ => False
  | D + 1 => fun σ => o12_unit (f12_condition (f12_goOnOr (f12_goOnAnd (fmUnitD D)) (fmUnitD D)) (f12_goOnAnd (fmUnitD D)) (fmUnitD D)) (fmUnitD D) (omUnitD D) (o12_condition (f12_goOnOr (f12_goOnAnd (fmUnitD D)) (fmUnitD D)) (f12_goOnAnd (fmUnitD D)) (fmUnitD D) (omUnitD D) (o12_goOnAnd (fmUnitD D) (omUnitD D)) (o12_goOnOr (f12_goOnAnd (fmUnitD D)) (fmUnitD D) (omUnitD D) (o12_goOnAnd (fmUnitD D) (omUnitD D)))) σ
theorem w_fmUnitD : ∀ (D : Nat) (σ : SI) (b : Nat), b ≠ 123 → b ≠ 125 → b ≠ 126 → b ≠ 127 → fmUnitD D σ b = σ b
  | 0, _, _, _, _, _, _ => rfl
  | D + 1, σ, b, h0, h1, h2, h3 => w_f12_unit (fun σ b h0 h1 h2 h3 => w_fmUnitD D σ b h0 h1 h2 h3) (fun σ b h0 h1 h2 h3 => w_f12_condition (fun σ b h0 h1 h2 h3 => w_fmUnitD D σ b h0 h1 h2 h3) (fun σ b h0 h1 h2 h3 => w_f12_goOnAnd (fun σ b h0 h1 h2 h3 => w_fmUnitD D σ b h0 h1 h2 h3) σ b h0 h1 h2 h3) (fun σ b h0 h1 h2 h3 => w_f12_goOnOr (fun σ b h0 h1 h2 h3 => w_fmUnitD D σ b h0 h1 h2 h3) (fun σ b h0 h1 h2 h3 => w_f12_goOnAnd (fun σ b h0 h1 h2 h3 => w_fmUnitD D σ b h0 h1 h2 h3) σ b h0 h1 h2 h3) σ b h0 h1 h2 h3) σ b h0 h1 h2 h3) σ b h0 h1 h2 h3
theorem cmUnitD (l : Launch) (G : GT) : ∀ (D : Nat) (σ : SI) (τ : SL), omUnitD D σ → Mc l yX12_unit cX12_unit 2 none (60 + 4 * D) G [.ref (G.2.1 123)] σ τ (Qv G (Ev (fmUnitD D σ) τ))
  | 0, _, _, h => h.elim
  | D + 1, σ, τ, h => c12_unit l G (fun σ τ h => cmUnitD l G D σ τ h) (fun σ τ h => c12_condition l G (fun σ τ h => cmUnitD l G D σ τ h) (fun σ τ h => c12_goOnAnd l G (fun σ τ h => cmUnitD l G D σ τ h) σ τ h) (fun σ τ h => c12_goOnOr l G (fun σ τ h => cmUnitD l G D σ τ h) (fun σ τ h => c12_goOnAnd l G (fun σ τ h => cmUnitD l G D σ τ h) σ τ h) σ τ h) σ τ h) σ τ h
noncomputable def f12_goOnAndR (σ : SI) : SI := (fun (D : Nat) => (f12_goOnAnd (fmUnitD D)) σ) (blk 8)
noncomputable def o12_goOnAndR (σ : SI) : Prop := (fun (D : Nat) => (o12_goOnAnd (fmUnitD D) (omUnitD D)) σ) (blk 8)
theorem w_f12_goOnAndR (σ : SI) (b : Nat) (h0 : b ≠ 123) (h1 : b ≠ 125) (h2 : b ≠ 126) (h3 : b ≠ 127) : f12_goOnAndR σ b = σ b := (fun (D : Nat) => (fun σ b h0 h1 h2 h3 => w_f12_goOnAnd (fun σ b h0 h1 h2 h3 => w_fmUnitD D σ b h0 h1 h2 h3) σ b h0 h1 h2 h3) σ b h0 h1 h2 h3) (blk 8)
theorem c12_goOnAndR (l : Launch) (G : GT) (σ : SI) (τ : SL) (h : o12_goOnAndR σ) : Mc l yX12_goOnAnd cX12_goOnAnd 1 none 93 G [.ref (G.2.1 123)] σ τ (Qv G (Ev (f12_goOnAndR σ) τ)) := by
  unfold o12_goOnAndR at h
  unfold f12_goOnAndR
  rw [blk_eq] at h ⊢
  exact (fun (D : Nat) (h : (o12_goOnAnd (fmUnitD D) (omUnitD D)) σ) => (fun σ τ h => c12_goOnAnd l G (fun σ τ h => cmUnitD l G D σ τ h) σ τ h) σ τ h) 8 h
noncomputable def f12_goOnOrR (σ : SI) : SI := (fun (D : Nat) => (f12_goOnOr (f12_goOnAnd (fmUnitD D)) (fmUnitD D)) σ) (blk 8)
noncomputable def o12_goOnOrR (σ : SI) : Prop := (fun (D : Nat) => (o12_goOnOr (f12_goOnAnd (fmUnitD D)) (fmUnitD D) (omUnitD D) (o12_goOnAnd (fmUnitD D) (omUnitD D))) σ) (blk 8)
theorem w_f12_goOnOrR (σ : SI) (b : Nat) (h0 : b ≠ 123) (h1 : b ≠ 125) (h2 : b ≠ 126) (h3 : b ≠ 127) : f12_goOnOrR σ b = σ b := (fun (D : Nat) => (fun σ b h0 h1 h2 h3 => w_f12_goOnOr (fun σ b h0 h1 h2 h3 => w_fmUnitD D σ b h0 h1 h2 h3) (fun σ b h0 h1 h2 h3 => w_f12_goOnAnd (fun σ b h0 h1 h2 h3 => w_fmUnitD D σ b h0 h1 h2 h3) σ b h0 h1 h2 h3) σ b h0 h1 h2 h3) σ b h0 h1 h2 h3) (blk 8)
theorem c12_goOnOrR (l : Launch) (G : GT) (σ : SI) (τ : SL) (h : o12_goOnOrR σ) : Mc l yX12_goOnOr cX12_goOnOr 1 none 94 G [.ref (G.2.1 123)] σ τ (Qv G (Ev (f12_goOnOrR σ) τ)) := by
  unfold o12_goOnOrR at h
  unfold f12_goOnOrR
  rw [blk_eq] at h ⊢
  exact (fun (D : Nat) (h : (o12_goOnOr (f12_goOnAnd (fmUnitD D)) (fmUnitD D) (omUnitD D) (o12_goOnAnd (fmUnitD D) (omUnitD D))) σ) => (fun σ τ h => c12_goOnOr l G (fun σ τ h => cmUnitD l G D σ τ h) (fun σ τ h => c12_goOnAnd l G (fun σ τ h => cmUnitD l G D σ τ h) σ τ h) σ τ h) σ τ h) 8 h
noncomputable def f12_conditionR (σ : SI) : SI := (fun (D : Nat) => (f12_condition (f12_goOnOr (f12_goOnAnd (fmUnitD D)) (fmUnitD D)) (f12_goOnAnd (fmUnitD D)) (fmUnitD D)) σ) (blk 8)
noncomputable def o12_conditionR (σ : SI) : Prop := (fun (D : Nat) => (o12_condition (f12_goOnOr (f12_goOnAnd (fmUnitD D)) (fmUnitD D)) (f12_goOnAnd (fmUnitD D)) (fmUnitD D) (omUnitD D) (o12_goOnAnd (fmUnitD D) (omUnitD D)) (o12_goOnOr (f12_goOnAnd (fmUnitD D)) (fmUnitD D) (omUnitD D) (o12_goOnAnd (fmUnitD D) (omUnitD D)))) σ) (blk 8)
theorem w_f12_conditionR (σ : SI) (b : Nat) (h0 : b ≠ 123) (h1 : b ≠ 125) (h2 : b ≠ 126) (h3 : b ≠ 127) : f12_conditionR σ b = σ b := (fun (D : Nat) => (fun σ b h0 h1 h2 h3 => w_f12_condition (fun σ b h0 h1 h2 h3 => w_fmUnitD D σ b h0 h1 h2 h3) (fun σ b h0 h1 h2 h3 => w_f12_goOnAnd (fun σ b h0 h1 h2 h3 => w_fmUnitD D σ b h0 h1 h2 h3) σ b h0 h1 h2 h3) (fun σ b h0 h1 h2 h3 => w_f12_goOnOr (fun σ b h0 h1 h2 h3 => w_fmUnitD D σ b h0 h1 h2 h3) (fun σ b h0 h1 h2 h3 => w_f12_goOnAnd (fun σ b h0 h1 h2 h3 => w_fmUnitD D σ b h0 h1 h2 h3) σ b h0 h1 h2 h3) σ b h0 h1 h2 h3) σ b h0 h1 h2 h3) σ b h0 h1 h2 h3) (blk 8)
theorem c12_conditionR (l : Launch) (G : GT) (σ : SI) (τ : SL) (h : o12_conditionR σ) : Mc l yX12_condition cX12_condition 1 none 95 G [.ref (G.2.1 123)] σ τ (Qv G (Ev (f12_conditionR σ) τ)) := by
  unfold o12_conditionR at h
  unfold f12_conditionR
  rw [blk_eq] at h ⊢
  exact (fun (D : Nat) (h : (o12_condition (f12_goOnOr (f12_goOnAnd (fmUnitD D)) (fmUnitD D)) (f12_goOnAnd (fmUnitD D)) (fmUnitD D) (omUnitD D) (o12_goOnAnd (fmUnitD D) (omUnitD D)) (o12_goOnOr (f12_goOnAnd (fmUnitD D)) (fmUnitD D) (omUnitD D) (o12_goOnAnd (fmUnitD D) (omUnitD D)))) σ) => (fun σ τ h => c12_condition l G (fun σ τ h => cmUnitD l G D σ τ h) (fun σ τ h => c12_goOnAnd l G (fun σ τ h => cmUnitD l G D σ τ h) σ τ h) (fun σ τ h => c12_goOnOr l G (fun σ τ h => cmUnitD l G D σ τ h) (fun σ τ h => c12_goOnAnd l G (fun σ τ h => cmUnitD l G D σ τ h) σ τ h) σ τ h) σ τ h) σ τ h) 8 h
noncomputable def f12_clause (σ : SI) : SI := if (σ 123 4) = (-1 : Int32) then (let r144 := (f12_look σ); if r144.1 = (121 : Int32) then (let s145 := sp r144.2 123 3 ((r144.2 123 3) + (1 : Int32)); if (r144.2 123 4) = (-1 : Int32) then (let r193 := (f12_look s145); if r193.1 = (58 : Int32) then (let s194 := sp r193.2 123 3 ((r193.2 123 3) + (1 : Int32)); if (r193.2 123 4) = (-1 : Int32) then (let s195 := sp s194 129 (Int32.toNatClampNeg (((140 : Int32) * (σ 123 14)) + (σ 128 (Int32.toNatClampNeg (σ 123 14))))) (r193.2 127 (Int32.toNatClampNeg (r193.2 123 14))); let r196 := (f12_look s195); if r196.1 = (33 : Int32) then (let s197 := (f12_conditionR r196.2); let s198 := sp s197 130 (Int32.toNatClampNeg (((140 : Int32) * (σ 123 14)) + (σ 128 (Int32.toNatClampNeg (σ 123 14))))) (s197 129 (Int32.toNatClampNeg (((140 : Int32) * (σ 123 14)) + (σ 128 (Int32.toNatClampNeg (σ 123 14)))))); if (s197 123 4) = (-1 : Int32) then (let r201 := (f12_look s198); if r201.1 = (63 : Int32) then (let s202 := sp r201.2 123 3 ((r201.2 123 3) + (1 : Int32)); let s203 := sp s202 130 (Int32.toNatClampNeg (((140 : Int32) * (σ 123 14)) + (σ 128 (Int32.toNatClampNeg (σ 123 14))))) (r201.2 127 (Int32.toNatClampNeg (r201.2 123 14))); let s204 := (f12_sumR s203); let s205 := sp s204 131 (Int32.toNatClampNeg (((140 : Int32) * (σ 123 14)) + (σ 128 (Int32.toNatClampNeg (σ 123 14))))) (s204 127 (Int32.toNatClampNeg (s204 123 14))); let s206 := sp s205 128 (Int32.toNatClampNeg (s204 123 14)) ((s204 128 (Int32.toNatClampNeg (s204 123 14))) + (1 : Int32)); s206) else (let s207 := (f12_bad r201.2); s207)) else (let s199 := sp s198 131 (Int32.toNatClampNeg (((140 : Int32) * (σ 123 14)) + (σ 128 (Int32.toNatClampNeg (σ 123 14))))) (s197 127 (Int32.toNatClampNeg (s197 123 14))); let s200 := sp s199 128 (Int32.toNatClampNeg (s197 123 14)) ((s197 128 (Int32.toNatClampNeg (s197 123 14))) + (1 : Int32)); s200)) else (let r208 := (f12_look r196.2); if r208.1 = (40 : Int32) then (let s230 := (f12_conditionR r208.2); let s231 := sp s230 130 (Int32.toNatClampNeg (((140 : Int32) * (σ 123 14)) + (σ 128 (Int32.toNatClampNeg (σ 123 14))))) (s230 129 (Int32.toNatClampNeg (((140 : Int32) * (σ 123 14)) + (σ 128 (Int32.toNatClampNeg (σ 123 14)))))); if (s230 123 4) = (-1 : Int32) then (let r234 := (f12_look s231); if r234.1 = (63 : Int32) then (let s235 := sp r234.2 123 3 ((r234.2 123 3) + (1 : Int32)); let s236 := sp s235 130 (Int32.toNatClampNeg (((140 : Int32) * (σ 123 14)) + (σ 128 (Int32.toNatClampNeg (σ 123 14))))) (r234.2 127 (Int32.toNatClampNeg (r234.2 123 14))); let s237 := (f12_sumR s236); let s238 := sp s237 131 (Int32.toNatClampNeg (((140 : Int32) * (σ 123 14)) + (σ 128 (Int32.toNatClampNeg (σ 123 14))))) (s237 127 (Int32.toNatClampNeg (s237 123 14))); let s239 := sp s238 128 (Int32.toNatClampNeg (s237 123 14)) ((s237 128 (Int32.toNatClampNeg (s237 123 14))) + (1 : Int32)); s239) else (let s240 := (f12_bad r234.2); s240)) else (let s232 := sp s231 131 (Int32.toNatClampNeg (((140 : Int32) * (σ 123 14)) + (σ 128 (Int32.toNatClampNeg (σ 123 14))))) (s230 127 (Int32.toNatClampNeg (s230 123 14))); let s233 := sp s232 128 (Int32.toNatClampNeg (s230 123 14)) ((s230 128 (Int32.toNatClampNeg (s230 123 14))) + (1 : Int32)); s233)) else (let s209 := (f12_sumR r208.2); if (s209 123 4) = (-1 : Int32) then (let r213 := (f12_look s209); if (f12_isSign r213.1) = true then (let s217 := (f12_compare r213.2); let s218 := (f12_goOnAndR s217); let s219 := (f12_goOnOrR s218); let s220 := sp s219 130 (Int32.toNatClampNeg (((140 : Int32) * (σ 123 14)) + (σ 128 (Int32.toNatClampNeg (σ 123 14))))) (s219 129 (Int32.toNatClampNeg (((140 : Int32) * (σ 123 14)) + (σ 128 (Int32.toNatClampNeg (σ 123 14)))))); if (s219 123 4) = (-1 : Int32) then (let r223 := (f12_look s220); if r223.1 = (63 : Int32) then (let s224 := sp r223.2 123 3 ((r223.2 123 3) + (1 : Int32)); let s225 := sp s224 130 (Int32.toNatClampNeg (((140 : Int32) * (σ 123 14)) + (σ 128 (Int32.toNatClampNeg (σ 123 14))))) (r223.2 127 (Int32.toNatClampNeg (r223.2 123 14))); let s226 := (f12_sumR s225); let s227 := sp s226 131 (Int32.toNatClampNeg (((140 : Int32) * (σ 123 14)) + (σ 128 (Int32.toNatClampNeg (σ 123 14))))) (s226 127 (Int32.toNatClampNeg (s226 123 14))); let s228 := sp s227 128 (Int32.toNatClampNeg (s226 123 14)) ((s226 128 (Int32.toNatClampNeg (s226 123 14))) + (1 : Int32)); s228) else (let s229 := (f12_bad r223.2); s229)) else (let s221 := sp s220 131 (Int32.toNatClampNeg (((140 : Int32) * (σ 123 14)) + (σ 128 (Int32.toNatClampNeg (σ 123 14))))) (s219 127 (Int32.toNatClampNeg (s219 123 14))); let s222 := sp s221 128 (Int32.toNatClampNeg (s219 123 14)) ((s219 128 (Int32.toNatClampNeg (s219 123 14))) + (1 : Int32)); s222)) else (let s214 := sp r213.2 130 (Int32.toNatClampNeg (((140 : Int32) * (σ 123 14)) + (σ 128 (Int32.toNatClampNeg (σ 123 14))))) (r213.2 129 (Int32.toNatClampNeg (((140 : Int32) * (σ 123 14)) + (σ 128 (Int32.toNatClampNeg (σ 123 14)))))); let s215 := sp s214 131 (Int32.toNatClampNeg (((140 : Int32) * (σ 123 14)) + (σ 128 (Int32.toNatClampNeg (σ 123 14))))) (r213.2 127 (Int32.toNatClampNeg (r213.2 123 14))); let s216 := sp s215 128 (Int32.toNatClampNeg (r213.2 123 14)) ((r213.2 128 (Int32.toNatClampNeg (r213.2 123 14))) + (1 : Int32)); s216)) else (let s210 := sp s209 130 (Int32.toNatClampNeg (((140 : Int32) * (σ 123 14)) + (σ 128 (Int32.toNatClampNeg (σ 123 14))))) (s209 129 (Int32.toNatClampNeg (((140 : Int32) * (σ 123 14)) + (σ 128 (Int32.toNatClampNeg (σ 123 14)))))); let s211 := sp s210 131 (Int32.toNatClampNeg (((140 : Int32) * (σ 123 14)) + (σ 128 (Int32.toNatClampNeg (σ 123 14))))) (s209 127 (Int32.toNatClampNeg (s209 123 14))); let s212 := sp s211 128 (Int32.toNatClampNeg (s209 123 14)) ((s209 128 (Int32.toNatClampNeg (s209 123 14))) + (1 : Int32)); s212)))) else s194) else (let s241 := (f12_bad r193.2); let s242 := sp s241 123 3 ((s241 123 3) + (1 : Int32)); if (s241 123 4) = (-1 : Int32) then (let s243 := sp s242 129 (Int32.toNatClampNeg (((140 : Int32) * (σ 123 14)) + (σ 128 (Int32.toNatClampNeg (σ 123 14))))) (s241 127 (Int32.toNatClampNeg (s241 123 14))); let r244 := (f12_look s243); if r244.1 = (33 : Int32) then (let s245 := (f12_conditionR r244.2); let s246 := sp s245 130 (Int32.toNatClampNeg (((140 : Int32) * (σ 123 14)) + (σ 128 (Int32.toNatClampNeg (σ 123 14))))) (s245 129 (Int32.toNatClampNeg (((140 : Int32) * (σ 123 14)) + (σ 128 (Int32.toNatClampNeg (σ 123 14)))))); if (s245 123 4) = (-1 : Int32) then (let r249 := (f12_look s246); if r249.1 = (63 : Int32) then (let s250 := sp r249.2 123 3 ((r249.2 123 3) + (1 : Int32)); let s251 := sp s250 130 (Int32.toNatClampNeg (((140 : Int32) * (σ 123 14)) + (σ 128 (Int32.toNatClampNeg (σ 123 14))))) (r249.2 127 (Int32.toNatClampNeg (r249.2 123 14))); let s252 := (f12_sumR s251); let s253 := sp s252 131 (Int32.toNatClampNeg (((140 : Int32) * (σ 123 14)) + (σ 128 (Int32.toNatClampNeg (σ 123 14))))) (s252 127 (Int32.toNatClampNeg (s252 123 14))); let s254 := sp s253 128 (Int32.toNatClampNeg (s252 123 14)) ((s252 128 (Int32.toNatClampNeg (s252 123 14))) + (1 : Int32)); s254) else (let s255 := (f12_bad r249.2); s255)) else (let s247 := sp s246 131 (Int32.toNatClampNeg (((140 : Int32) * (σ 123 14)) + (σ 128 (Int32.toNatClampNeg (σ 123 14))))) (s245 127 (Int32.toNatClampNeg (s245 123 14))); let s248 := sp s247 128 (Int32.toNatClampNeg (s245 123 14)) ((s245 128 (Int32.toNatClampNeg (s245 123 14))) + (1 : Int32)); s248)) else (let r256 := (f12_look r244.2); if r256.1 = (40 : Int32) then (let s278 := (f12_conditionR r256.2); let s279 := sp s278 130 (Int32.toNatClampNeg (((140 : Int32) * (σ 123 14)) + (σ 128 (Int32.toNatClampNeg (σ 123 14))))) (s278 129 (Int32.toNatClampNeg (((140 : Int32) * (σ 123 14)) + (σ 128 (Int32.toNatClampNeg (σ 123 14)))))); if (s278 123 4) = (-1 : Int32) then (let r282 := (f12_look s279); if r282.1 = (63 : Int32) then (let s283 := sp r282.2 123 3 ((r282.2 123 3) + (1 : Int32)); let s284 := sp s283 130 (Int32.toNatClampNeg (((140 : Int32) * (σ 123 14)) + (σ 128 (Int32.toNatClampNeg (σ 123 14))))) (r282.2 127 (Int32.toNatClampNeg (r282.2 123 14))); let s285 := (f12_sumR s284); let s286 := sp s285 131 (Int32.toNatClampNeg (((140 : Int32) * (σ 123 14)) + (σ 128 (Int32.toNatClampNeg (σ 123 14))))) (s285 127 (Int32.toNatClampNeg (s285 123 14))); let s287 := sp s286 128 (Int32.toNatClampNeg (s285 123 14)) ((s285 128 (Int32.toNatClampNeg (s285 123 14))) + (1 : Int32)); s287) else (let s288 := (f12_bad r282.2); s288)) else (let s280 := sp s279 131 (Int32.toNatClampNeg (((140 : Int32) * (σ 123 14)) + (σ 128 (Int32.toNatClampNeg (σ 123 14))))) (s278 127 (Int32.toNatClampNeg (s278 123 14))); let s281 := sp s280 128 (Int32.toNatClampNeg (s278 123 14)) ((s278 128 (Int32.toNatClampNeg (s278 123 14))) + (1 : Int32)); s281)) else (let s257 := (f12_sumR r256.2); if (s257 123 4) = (-1 : Int32) then (let r261 := (f12_look s257); if (f12_isSign r261.1) = true then (let s265 := (f12_compare r261.2); let s266 := (f12_goOnAndR s265); let s267 := (f12_goOnOrR s266); let s268 := sp s267 130 (Int32.toNatClampNeg (((140 : Int32) * (σ 123 14)) + (σ 128 (Int32.toNatClampNeg (σ 123 14))))) (s267 129 (Int32.toNatClampNeg (((140 : Int32) * (σ 123 14)) + (σ 128 (Int32.toNatClampNeg (σ 123 14)))))); if (s267 123 4) = (-1 : Int32) then (let r271 := (f12_look s268); if r271.1 = (63 : Int32) then (let s272 := sp r271.2 123 3 ((r271.2 123 3) + (1 : Int32)); let s273 := sp s272 130 (Int32.toNatClampNeg (((140 : Int32) * (σ 123 14)) + (σ 128 (Int32.toNatClampNeg (σ 123 14))))) (r271.2 127 (Int32.toNatClampNeg (r271.2 123 14))); let s274 := (f12_sumR s273); let s275 := sp s274 131 (Int32.toNatClampNeg (((140 : Int32) * (σ 123 14)) + (σ 128 (Int32.toNatClampNeg (σ 123 14))))) (s274 127 (Int32.toNatClampNeg (s274 123 14))); let s276 := sp s275 128 (Int32.toNatClampNeg (s274 123 14)) ((s274 128 (Int32.toNatClampNeg (s274 123 14))) + (1 : Int32)); s276) else (let s277 := (f12_bad r271.2); s277)) else (let s269 := sp s268 131 (Int32.toNatClampNeg (((140 : Int32) * (σ 123 14)) + (σ 128 (Int32.toNatClampNeg (σ 123 14))))) (s267 127 (Int32.toNatClampNeg (s267 123 14))); let s270 := sp s269 128 (Int32.toNatClampNeg (s267 123 14)) ((s267 128 (Int32.toNatClampNeg (s267 123 14))) + (1 : Int32)); s270)) else (let s262 := sp r261.2 130 (Int32.toNatClampNeg (((140 : Int32) * (σ 123 14)) + (σ 128 (Int32.toNatClampNeg (σ 123 14))))) (r261.2 129 (Int32.toNatClampNeg (((140 : Int32) * (σ 123 14)) + (σ 128 (Int32.toNatClampNeg (σ 123 14)))))); let s263 := sp s262 131 (Int32.toNatClampNeg (((140 : Int32) * (σ 123 14)) + (σ 128 (Int32.toNatClampNeg (σ 123 14))))) (r261.2 127 (Int32.toNatClampNeg (r261.2 123 14))); let s264 := sp s263 128 (Int32.toNatClampNeg (r261.2 123 14)) ((r261.2 128 (Int32.toNatClampNeg (r261.2 123 14))) + (1 : Int32)); s264)) else (let s258 := sp s257 130 (Int32.toNatClampNeg (((140 : Int32) * (σ 123 14)) + (σ 128 (Int32.toNatClampNeg (σ 123 14))))) (s257 129 (Int32.toNatClampNeg (((140 : Int32) * (σ 123 14)) + (σ 128 (Int32.toNatClampNeg (σ 123 14)))))); let s259 := sp s258 131 (Int32.toNatClampNeg (((140 : Int32) * (σ 123 14)) + (σ 128 (Int32.toNatClampNeg (σ 123 14))))) (s257 127 (Int32.toNatClampNeg (s257 123 14))); let s260 := sp s259 128 (Int32.toNatClampNeg (s257 123 14)) ((s257 128 (Int32.toNatClampNeg (s257 123 14))) + (1 : Int32)); s260)))) else s242)) else (let s146 := sp s145 123 3 (((r144.2 123 3) + (1 : Int32)) + (1 : Int32)); if (r144.2 123 4) = (-1 : Int32) then (let s147 := sp s146 129 (Int32.toNatClampNeg (((140 : Int32) * (σ 123 14)) + (σ 128 (Int32.toNatClampNeg (σ 123 14))))) (r144.2 127 (Int32.toNatClampNeg (r144.2 123 14))); let r148 := (f12_look s147); if r148.1 = (33 : Int32) then (let s149 := (f12_conditionR r148.2); let s150 := sp s149 130 (Int32.toNatClampNeg (((140 : Int32) * (σ 123 14)) + (σ 128 (Int32.toNatClampNeg (σ 123 14))))) (s149 129 (Int32.toNatClampNeg (((140 : Int32) * (σ 123 14)) + (σ 128 (Int32.toNatClampNeg (σ 123 14)))))); if (s149 123 4) = (-1 : Int32) then (let r153 := (f12_look s150); if r153.1 = (63 : Int32) then (let s154 := sp r153.2 123 3 ((r153.2 123 3) + (1 : Int32)); let s155 := sp s154 130 (Int32.toNatClampNeg (((140 : Int32) * (σ 123 14)) + (σ 128 (Int32.toNatClampNeg (σ 123 14))))) (r153.2 127 (Int32.toNatClampNeg (r153.2 123 14))); let s156 := (f12_sumR s155); let s157 := sp s156 131 (Int32.toNatClampNeg (((140 : Int32) * (σ 123 14)) + (σ 128 (Int32.toNatClampNeg (σ 123 14))))) (s156 127 (Int32.toNatClampNeg (s156 123 14))); let s158 := sp s157 128 (Int32.toNatClampNeg (s156 123 14)) ((s156 128 (Int32.toNatClampNeg (s156 123 14))) + (1 : Int32)); s158) else (let s159 := (f12_bad r153.2); s159)) else (let s151 := sp s150 131 (Int32.toNatClampNeg (((140 : Int32) * (σ 123 14)) + (σ 128 (Int32.toNatClampNeg (σ 123 14))))) (s149 127 (Int32.toNatClampNeg (s149 123 14))); let s152 := sp s151 128 (Int32.toNatClampNeg (s149 123 14)) ((s149 128 (Int32.toNatClampNeg (s149 123 14))) + (1 : Int32)); s152)) else (let r160 := (f12_look r148.2); if r160.1 = (40 : Int32) then (let s182 := (f12_conditionR r160.2); let s183 := sp s182 130 (Int32.toNatClampNeg (((140 : Int32) * (σ 123 14)) + (σ 128 (Int32.toNatClampNeg (σ 123 14))))) (s182 129 (Int32.toNatClampNeg (((140 : Int32) * (σ 123 14)) + (σ 128 (Int32.toNatClampNeg (σ 123 14)))))); if (s182 123 4) = (-1 : Int32) then (let r186 := (f12_look s183); if r186.1 = (63 : Int32) then (let s187 := sp r186.2 123 3 ((r186.2 123 3) + (1 : Int32)); let s188 := sp s187 130 (Int32.toNatClampNeg (((140 : Int32) * (σ 123 14)) + (σ 128 (Int32.toNatClampNeg (σ 123 14))))) (r186.2 127 (Int32.toNatClampNeg (r186.2 123 14))); let s189 := (f12_sumR s188); let s190 := sp s189 131 (Int32.toNatClampNeg (((140 : Int32) * (σ 123 14)) + (σ 128 (Int32.toNatClampNeg (σ 123 14))))) (s189 127 (Int32.toNatClampNeg (s189 123 14))); let s191 := sp s190 128 (Int32.toNatClampNeg (s189 123 14)) ((s189 128 (Int32.toNatClampNeg (s189 123 14))) + (1 : Int32)); s191) else (let s192 := (f12_bad r186.2); s192)) else (let s184 := sp s183 131 (Int32.toNatClampNeg (((140 : Int32) * (σ 123 14)) + (σ 128 (Int32.toNatClampNeg (σ 123 14))))) (s182 127 (Int32.toNatClampNeg (s182 123 14))); let s185 := sp s184 128 (Int32.toNatClampNeg (s182 123 14)) ((s182 128 (Int32.toNatClampNeg (s182 123 14))) + (1 : Int32)); s185)) else (let s161 := (f12_sumR r160.2); if (s161 123 4) = (-1 : Int32) then (let r165 := (f12_look s161); if (f12_isSign r165.1) = true then (let s169 := (f12_compare r165.2); let s170 := (f12_goOnAndR s169); let s171 := (f12_goOnOrR s170); let s172 := sp s171 130 (Int32.toNatClampNeg (((140 : Int32) * (σ 123 14)) + (σ 128 (Int32.toNatClampNeg (σ 123 14))))) (s171 129 (Int32.toNatClampNeg (((140 : Int32) * (σ 123 14)) + (σ 128 (Int32.toNatClampNeg (σ 123 14)))))); if (s171 123 4) = (-1 : Int32) then (let r175 := (f12_look s172); if r175.1 = (63 : Int32) then (let s176 := sp r175.2 123 3 ((r175.2 123 3) + (1 : Int32)); let s177 := sp s176 130 (Int32.toNatClampNeg (((140 : Int32) * (σ 123 14)) + (σ 128 (Int32.toNatClampNeg (σ 123 14))))) (r175.2 127 (Int32.toNatClampNeg (r175.2 123 14))); let s178 := (f12_sumR s177); let s179 := sp s178 131 (Int32.toNatClampNeg (((140 : Int32) * (σ 123 14)) + (σ 128 (Int32.toNatClampNeg (σ 123 14))))) (s178 127 (Int32.toNatClampNeg (s178 123 14))); let s180 := sp s179 128 (Int32.toNatClampNeg (s178 123 14)) ((s178 128 (Int32.toNatClampNeg (s178 123 14))) + (1 : Int32)); s180) else (let s181 := (f12_bad r175.2); s181)) else (let s173 := sp s172 131 (Int32.toNatClampNeg (((140 : Int32) * (σ 123 14)) + (σ 128 (Int32.toNatClampNeg (σ 123 14))))) (s171 127 (Int32.toNatClampNeg (s171 123 14))); let s174 := sp s173 128 (Int32.toNatClampNeg (s171 123 14)) ((s171 128 (Int32.toNatClampNeg (s171 123 14))) + (1 : Int32)); s174)) else (let s166 := sp r165.2 130 (Int32.toNatClampNeg (((140 : Int32) * (σ 123 14)) + (σ 128 (Int32.toNatClampNeg (σ 123 14))))) (r165.2 129 (Int32.toNatClampNeg (((140 : Int32) * (σ 123 14)) + (σ 128 (Int32.toNatClampNeg (σ 123 14)))))); let s167 := sp s166 131 (Int32.toNatClampNeg (((140 : Int32) * (σ 123 14)) + (σ 128 (Int32.toNatClampNeg (σ 123 14))))) (r165.2 127 (Int32.toNatClampNeg (r165.2 123 14))); let s168 := sp s167 128 (Int32.toNatClampNeg (r165.2 123 14)) ((r165.2 128 (Int32.toNatClampNeg (r165.2 123 14))) + (1 : Int32)); s168)) else (let s162 := sp s161 130 (Int32.toNatClampNeg (((140 : Int32) * (σ 123 14)) + (σ 128 (Int32.toNatClampNeg (σ 123 14))))) (s161 129 (Int32.toNatClampNeg (((140 : Int32) * (σ 123 14)) + (σ 128 (Int32.toNatClampNeg (σ 123 14)))))); let s163 := sp s162 131 (Int32.toNatClampNeg (((140 : Int32) * (σ 123 14)) + (σ 128 (Int32.toNatClampNeg (σ 123 14))))) (s161 127 (Int32.toNatClampNeg (s161 123 14))); let s164 := sp s163 128 (Int32.toNatClampNeg (s161 123 14)) ((s161 128 (Int32.toNatClampNeg (s161 123 14))) + (1 : Int32)); s164)))) else s146)) else (let s289 := (f12_bad r144.2); let s290 := sp s289 123 3 ((s289 123 3) + (1 : Int32)); if (s289 123 4) = (-1 : Int32) then (let r338 := (f12_look s290); if r338.1 = (58 : Int32) then (let s339 := sp r338.2 123 3 ((r338.2 123 3) + (1 : Int32)); if (r338.2 123 4) = (-1 : Int32) then (let s340 := sp s339 129 (Int32.toNatClampNeg (((140 : Int32) * (σ 123 14)) + (σ 128 (Int32.toNatClampNeg (σ 123 14))))) (r338.2 127 (Int32.toNatClampNeg (r338.2 123 14))); let r341 := (f12_look s340); if r341.1 = (33 : Int32) then (let s342 := (f12_conditionR r341.2); let s343 := sp s342 130 (Int32.toNatClampNeg (((140 : Int32) * (σ 123 14)) + (σ 128 (Int32.toNatClampNeg (σ 123 14))))) (s342 129 (Int32.toNatClampNeg (((140 : Int32) * (σ 123 14)) + (σ 128 (Int32.toNatClampNeg (σ 123 14)))))); if (s342 123 4) = (-1 : Int32) then (let r346 := (f12_look s343); if r346.1 = (63 : Int32) then (let s347 := sp r346.2 123 3 ((r346.2 123 3) + (1 : Int32)); let s348 := sp s347 130 (Int32.toNatClampNeg (((140 : Int32) * (σ 123 14)) + (σ 128 (Int32.toNatClampNeg (σ 123 14))))) (r346.2 127 (Int32.toNatClampNeg (r346.2 123 14))); let s349 := (f12_sumR s348); let s350 := sp s349 131 (Int32.toNatClampNeg (((140 : Int32) * (σ 123 14)) + (σ 128 (Int32.toNatClampNeg (σ 123 14))))) (s349 127 (Int32.toNatClampNeg (s349 123 14))); let s351 := sp s350 128 (Int32.toNatClampNeg (s349 123 14)) ((s349 128 (Int32.toNatClampNeg (s349 123 14))) + (1 : Int32)); s351) else (let s352 := (f12_bad r346.2); s352)) else (let s344 := sp s343 131 (Int32.toNatClampNeg (((140 : Int32) * (σ 123 14)) + (σ 128 (Int32.toNatClampNeg (σ 123 14))))) (s342 127 (Int32.toNatClampNeg (s342 123 14))); let s345 := sp s344 128 (Int32.toNatClampNeg (s342 123 14)) ((s342 128 (Int32.toNatClampNeg (s342 123 14))) + (1 : Int32)); s345)) else (let r353 := (f12_look r341.2); if r353.1 = (40 : Int32) then (let s375 := (f12_conditionR r353.2); let s376 := sp s375 130 (Int32.toNatClampNeg (((140 : Int32) * (σ 123 14)) + (σ 128 (Int32.toNatClampNeg (σ 123 14))))) (s375 129 (Int32.toNatClampNeg (((140 : Int32) * (σ 123 14)) + (σ 128 (Int32.toNatClampNeg (σ 123 14)))))); if (s375 123 4) = (-1 : Int32) then (let r379 := (f12_look s376); if r379.1 = (63 : Int32) then (let s380 := sp r379.2 123 3 ((r379.2 123 3) + (1 : Int32)); let s381 := sp s380 130 (Int32.toNatClampNeg (((140 : Int32) * (σ 123 14)) + (σ 128 (Int32.toNatClampNeg (σ 123 14))))) (r379.2 127 (Int32.toNatClampNeg (r379.2 123 14))); let s382 := (f12_sumR s381); let s383 := sp s382 131 (Int32.toNatClampNeg (((140 : Int32) * (σ 123 14)) + (σ 128 (Int32.toNatClampNeg (σ 123 14))))) (s382 127 (Int32.toNatClampNeg (s382 123 14))); let s384 := sp s383 128 (Int32.toNatClampNeg (s382 123 14)) ((s382 128 (Int32.toNatClampNeg (s382 123 14))) + (1 : Int32)); s384) else (let s385 := (f12_bad r379.2); s385)) else (let s377 := sp s376 131 (Int32.toNatClampNeg (((140 : Int32) * (σ 123 14)) + (σ 128 (Int32.toNatClampNeg (σ 123 14))))) (s375 127 (Int32.toNatClampNeg (s375 123 14))); let s378 := sp s377 128 (Int32.toNatClampNeg (s375 123 14)) ((s375 128 (Int32.toNatClampNeg (s375 123 14))) + (1 : Int32)); s378)) else (let s354 := (f12_sumR r353.2); if (s354 123 4) = (-1 : Int32) then (let r358 := (f12_look s354); if (f12_isSign r358.1) = true then (let s362 := (f12_compare r358.2); let s363 := (f12_goOnAndR s362); let s364 := (f12_goOnOrR s363); let s365 := sp s364 130 (Int32.toNatClampNeg (((140 : Int32) * (σ 123 14)) + (σ 128 (Int32.toNatClampNeg (σ 123 14))))) (s364 129 (Int32.toNatClampNeg (((140 : Int32) * (σ 123 14)) + (σ 128 (Int32.toNatClampNeg (σ 123 14)))))); if (s364 123 4) = (-1 : Int32) then (let r368 := (f12_look s365); if r368.1 = (63 : Int32) then (let s369 := sp r368.2 123 3 ((r368.2 123 3) + (1 : Int32)); let s370 := sp s369 130 (Int32.toNatClampNeg (((140 : Int32) * (σ 123 14)) + (σ 128 (Int32.toNatClampNeg (σ 123 14))))) (r368.2 127 (Int32.toNatClampNeg (r368.2 123 14))); let s371 := (f12_sumR s370); let s372 := sp s371 131 (Int32.toNatClampNeg (((140 : Int32) * (σ 123 14)) + (σ 128 (Int32.toNatClampNeg (σ 123 14))))) (s371 127 (Int32.toNatClampNeg (s371 123 14))); let s373 := sp s372 128 (Int32.toNatClampNeg (s371 123 14)) ((s371 128 (Int32.toNatClampNeg (s371 123 14))) + (1 : Int32)); s373) else (let s374 := (f12_bad r368.2); s374)) else (let s366 := sp s365 131 (Int32.toNatClampNeg (((140 : Int32) * (σ 123 14)) + (σ 128 (Int32.toNatClampNeg (σ 123 14))))) (s364 127 (Int32.toNatClampNeg (s364 123 14))); let s367 := sp s366 128 (Int32.toNatClampNeg (s364 123 14)) ((s364 128 (Int32.toNatClampNeg (s364 123 14))) + (1 : Int32)); s367)) else (let s359 := sp r358.2 130 (Int32.toNatClampNeg (((140 : Int32) * (σ 123 14)) + (σ 128 (Int32.toNatClampNeg (σ 123 14))))) (r358.2 129 (Int32.toNatClampNeg (((140 : Int32) * (σ 123 14)) + (σ 128 (Int32.toNatClampNeg (σ 123 14)))))); let s360 := sp s359 131 (Int32.toNatClampNeg (((140 : Int32) * (σ 123 14)) + (σ 128 (Int32.toNatClampNeg (σ 123 14))))) (r358.2 127 (Int32.toNatClampNeg (r358.2 123 14))); let s361 := sp s360 128 (Int32.toNatClampNeg (r358.2 123 14)) ((r358.2 128 (Int32.toNatClampNeg (r358.2 123 14))) + (1 : Int32)); s361)) else (let s355 := sp s354 130 (Int32.toNatClampNeg (((140 : Int32) * (σ 123 14)) + (σ 128 (Int32.toNatClampNeg (σ 123 14))))) (s354 129 (Int32.toNatClampNeg (((140 : Int32) * (σ 123 14)) + (σ 128 (Int32.toNatClampNeg (σ 123 14)))))); let s356 := sp s355 131 (Int32.toNatClampNeg (((140 : Int32) * (σ 123 14)) + (σ 128 (Int32.toNatClampNeg (σ 123 14))))) (s354 127 (Int32.toNatClampNeg (s354 123 14))); let s357 := sp s356 128 (Int32.toNatClampNeg (s354 123 14)) ((s354 128 (Int32.toNatClampNeg (s354 123 14))) + (1 : Int32)); s357)))) else s339) else (let s386 := (f12_bad r338.2); let s387 := sp s386 123 3 ((s386 123 3) + (1 : Int32)); if (s386 123 4) = (-1 : Int32) then (let s388 := sp s387 129 (Int32.toNatClampNeg (((140 : Int32) * (σ 123 14)) + (σ 128 (Int32.toNatClampNeg (σ 123 14))))) (s386 127 (Int32.toNatClampNeg (s386 123 14))); let r389 := (f12_look s388); if r389.1 = (33 : Int32) then (let s390 := (f12_conditionR r389.2); let s391 := sp s390 130 (Int32.toNatClampNeg (((140 : Int32) * (σ 123 14)) + (σ 128 (Int32.toNatClampNeg (σ 123 14))))) (s390 129 (Int32.toNatClampNeg (((140 : Int32) * (σ 123 14)) + (σ 128 (Int32.toNatClampNeg (σ 123 14)))))); if (s390 123 4) = (-1 : Int32) then (let r394 := (f12_look s391); if r394.1 = (63 : Int32) then (let s395 := sp r394.2 123 3 ((r394.2 123 3) + (1 : Int32)); let s396 := sp s395 130 (Int32.toNatClampNeg (((140 : Int32) * (σ 123 14)) + (σ 128 (Int32.toNatClampNeg (σ 123 14))))) (r394.2 127 (Int32.toNatClampNeg (r394.2 123 14))); let s397 := (f12_sumR s396); let s398 := sp s397 131 (Int32.toNatClampNeg (((140 : Int32) * (σ 123 14)) + (σ 128 (Int32.toNatClampNeg (σ 123 14))))) (s397 127 (Int32.toNatClampNeg (s397 123 14))); let s399 := sp s398 128 (Int32.toNatClampNeg (s397 123 14)) ((s397 128 (Int32.toNatClampNeg (s397 123 14))) + (1 : Int32)); s399) else (let s400 := (f12_bad r394.2); s400)) else (let s392 := sp s391 131 (Int32.toNatClampNeg (((140 : Int32) * (σ 123 14)) + (σ 128 (Int32.toNatClampNeg (σ 123 14))))) (s390 127 (Int32.toNatClampNeg (s390 123 14))); let s393 := sp s392 128 (Int32.toNatClampNeg (s390 123 14)) ((s390 128 (Int32.toNatClampNeg (s390 123 14))) + (1 : Int32)); s393)) else (let r401 := (f12_look r389.2); if r401.1 = (40 : Int32) then (let s423 := (f12_conditionR r401.2); let s424 := sp s423 130 (Int32.toNatClampNeg (((140 : Int32) * (σ 123 14)) + (σ 128 (Int32.toNatClampNeg (σ 123 14))))) (s423 129 (Int32.toNatClampNeg (((140 : Int32) * (σ 123 14)) + (σ 128 (Int32.toNatClampNeg (σ 123 14)))))); if (s423 123 4) = (-1 : Int32) then (let r427 := (f12_look s424); if r427.1 = (63 : Int32) then (let s428 := sp r427.2 123 3 ((r427.2 123 3) + (1 : Int32)); let s429 := sp s428 130 (Int32.toNatClampNeg (((140 : Int32) * (σ 123 14)) + (σ 128 (Int32.toNatClampNeg (σ 123 14))))) (r427.2 127 (Int32.toNatClampNeg (r427.2 123 14))); let s430 := (f12_sumR s429); let s431 := sp s430 131 (Int32.toNatClampNeg (((140 : Int32) * (σ 123 14)) + (σ 128 (Int32.toNatClampNeg (σ 123 14))))) (s430 127 (Int32.toNatClampNeg (s430 123 14))); let s432 := sp s431 128 (Int32.toNatClampNeg (s430 123 14)) ((s430 128 (Int32.toNatClampNeg (s430 123 14))) + (1 : Int32)); s432) else (let s433 := (f12_bad r427.2); s433)) else (let s425 := sp s424 131 (Int32.toNatClampNeg (((140 : Int32) * (σ 123 14)) + (σ 128 (Int32.toNatClampNeg (σ 123 14))))) (s423 127 (Int32.toNatClampNeg (s423 123 14))); let s426 := sp s425 128 (Int32.toNatClampNeg (s423 123 14)) ((s423 128 (Int32.toNatClampNeg (s423 123 14))) + (1 : Int32)); s426)) else (let s402 := (f12_sumR r401.2); if (s402 123 4) = (-1 : Int32) then (let r406 := (f12_look s402); if (f12_isSign r406.1) = true then (let s410 := (f12_compare r406.2); let s411 := (f12_goOnAndR s410); let s412 := (f12_goOnOrR s411); let s413 := sp s412 130 (Int32.toNatClampNeg (((140 : Int32) * (σ 123 14)) + (σ 128 (Int32.toNatClampNeg (σ 123 14))))) (s412 129 (Int32.toNatClampNeg (((140 : Int32) * (σ 123 14)) + (σ 128 (Int32.toNatClampNeg (σ 123 14)))))); if (s412 123 4) = (-1 : Int32) then (let r416 := (f12_look s413); if r416.1 = (63 : Int32) then (let s417 := sp r416.2 123 3 ((r416.2 123 3) + (1 : Int32)); let s418 := sp s417 130 (Int32.toNatClampNeg (((140 : Int32) * (σ 123 14)) + (σ 128 (Int32.toNatClampNeg (σ 123 14))))) (r416.2 127 (Int32.toNatClampNeg (r416.2 123 14))); let s419 := (f12_sumR s418); let s420 := sp s419 131 (Int32.toNatClampNeg (((140 : Int32) * (σ 123 14)) + (σ 128 (Int32.toNatClampNeg (σ 123 14))))) (s419 127 (Int32.toNatClampNeg (s419 123 14))); let s421 := sp s420 128 (Int32.toNatClampNeg (s419 123 14)) ((s419 128 (Int32.toNatClampNeg (s419 123 14))) + (1 : Int32)); s421) else (let s422 := (f12_bad r416.2); s422)) else (let s414 := sp s413 131 (Int32.toNatClampNeg (((140 : Int32) * (σ 123 14)) + (σ 128 (Int32.toNatClampNeg (σ 123 14))))) (s412 127 (Int32.toNatClampNeg (s412 123 14))); let s415 := sp s414 128 (Int32.toNatClampNeg (s412 123 14)) ((s412 128 (Int32.toNatClampNeg (s412 123 14))) + (1 : Int32)); s415)) else (let s407 := sp r406.2 130 (Int32.toNatClampNeg (((140 : Int32) * (σ 123 14)) + (σ 128 (Int32.toNatClampNeg (σ 123 14))))) (r406.2 129 (Int32.toNatClampNeg (((140 : Int32) * (σ 123 14)) + (σ 128 (Int32.toNatClampNeg (σ 123 14)))))); let s408 := sp s407 131 (Int32.toNatClampNeg (((140 : Int32) * (σ 123 14)) + (σ 128 (Int32.toNatClampNeg (σ 123 14))))) (r406.2 127 (Int32.toNatClampNeg (r406.2 123 14))); let s409 := sp s408 128 (Int32.toNatClampNeg (r406.2 123 14)) ((r406.2 128 (Int32.toNatClampNeg (r406.2 123 14))) + (1 : Int32)); s409)) else (let s403 := sp s402 130 (Int32.toNatClampNeg (((140 : Int32) * (σ 123 14)) + (σ 128 (Int32.toNatClampNeg (σ 123 14))))) (s402 129 (Int32.toNatClampNeg (((140 : Int32) * (σ 123 14)) + (σ 128 (Int32.toNatClampNeg (σ 123 14)))))); let s404 := sp s403 131 (Int32.toNatClampNeg (((140 : Int32) * (σ 123 14)) + (σ 128 (Int32.toNatClampNeg (σ 123 14))))) (s402 127 (Int32.toNatClampNeg (s402 123 14))); let s405 := sp s404 128 (Int32.toNatClampNeg (s402 123 14)) ((s402 128 (Int32.toNatClampNeg (s402 123 14))) + (1 : Int32)); s405)))) else s387)) else (let s291 := sp s290 123 3 (((s289 123 3) + (1 : Int32)) + (1 : Int32)); if (s289 123 4) = (-1 : Int32) then (let s292 := sp s291 129 (Int32.toNatClampNeg (((140 : Int32) * (σ 123 14)) + (σ 128 (Int32.toNatClampNeg (σ 123 14))))) (s289 127 (Int32.toNatClampNeg (s289 123 14))); let r293 := (f12_look s292); if r293.1 = (33 : Int32) then (let s294 := (f12_conditionR r293.2); let s295 := sp s294 130 (Int32.toNatClampNeg (((140 : Int32) * (σ 123 14)) + (σ 128 (Int32.toNatClampNeg (σ 123 14))))) (s294 129 (Int32.toNatClampNeg (((140 : Int32) * (σ 123 14)) + (σ 128 (Int32.toNatClampNeg (σ 123 14)))))); if (s294 123 4) = (-1 : Int32) then (let r298 := (f12_look s295); if r298.1 = (63 : Int32) then (let s299 := sp r298.2 123 3 ((r298.2 123 3) + (1 : Int32)); let s300 := sp s299 130 (Int32.toNatClampNeg (((140 : Int32) * (σ 123 14)) + (σ 128 (Int32.toNatClampNeg (σ 123 14))))) (r298.2 127 (Int32.toNatClampNeg (r298.2 123 14))); let s301 := (f12_sumR s300); let s302 := sp s301 131 (Int32.toNatClampNeg (((140 : Int32) * (σ 123 14)) + (σ 128 (Int32.toNatClampNeg (σ 123 14))))) (s301 127 (Int32.toNatClampNeg (s301 123 14))); let s303 := sp s302 128 (Int32.toNatClampNeg (s301 123 14)) ((s301 128 (Int32.toNatClampNeg (s301 123 14))) + (1 : Int32)); s303) else (let s304 := (f12_bad r298.2); s304)) else (let s296 := sp s295 131 (Int32.toNatClampNeg (((140 : Int32) * (σ 123 14)) + (σ 128 (Int32.toNatClampNeg (σ 123 14))))) (s294 127 (Int32.toNatClampNeg (s294 123 14))); let s297 := sp s296 128 (Int32.toNatClampNeg (s294 123 14)) ((s294 128 (Int32.toNatClampNeg (s294 123 14))) + (1 : Int32)); s297)) else (let r305 := (f12_look r293.2); if r305.1 = (40 : Int32) then (let s327 := (f12_conditionR r305.2); let s328 := sp s327 130 (Int32.toNatClampNeg (((140 : Int32) * (σ 123 14)) + (σ 128 (Int32.toNatClampNeg (σ 123 14))))) (s327 129 (Int32.toNatClampNeg (((140 : Int32) * (σ 123 14)) + (σ 128 (Int32.toNatClampNeg (σ 123 14)))))); if (s327 123 4) = (-1 : Int32) then (let r331 := (f12_look s328); if r331.1 = (63 : Int32) then (let s332 := sp r331.2 123 3 ((r331.2 123 3) + (1 : Int32)); let s333 := sp s332 130 (Int32.toNatClampNeg (((140 : Int32) * (σ 123 14)) + (σ 128 (Int32.toNatClampNeg (σ 123 14))))) (r331.2 127 (Int32.toNatClampNeg (r331.2 123 14))); let s334 := (f12_sumR s333); let s335 := sp s334 131 (Int32.toNatClampNeg (((140 : Int32) * (σ 123 14)) + (σ 128 (Int32.toNatClampNeg (σ 123 14))))) (s334 127 (Int32.toNatClampNeg (s334 123 14))); let s336 := sp s335 128 (Int32.toNatClampNeg (s334 123 14)) ((s334 128 (Int32.toNatClampNeg (s334 123 14))) + (1 : Int32)); s336) else (let s337 := (f12_bad r331.2); s337)) else (let s329 := sp s328 131 (Int32.toNatClampNeg (((140 : Int32) * (σ 123 14)) + (σ 128 (Int32.toNatClampNeg (σ 123 14))))) (s327 127 (Int32.toNatClampNeg (s327 123 14))); let s330 := sp s329 128 (Int32.toNatClampNeg (s327 123 14)) ((s327 128 (Int32.toNatClampNeg (s327 123 14))) + (1 : Int32)); s330)) else (let s306 := (f12_sumR r305.2); if (s306 123 4) = (-1 : Int32) then (let r310 := (f12_look s306); if (f12_isSign r310.1) = true then (let s314 := (f12_compare r310.2); let s315 := (f12_goOnAndR s314); let s316 := (f12_goOnOrR s315); let s317 := sp s316 130 (Int32.toNatClampNeg (((140 : Int32) * (σ 123 14)) + (σ 128 (Int32.toNatClampNeg (σ 123 14))))) (s316 129 (Int32.toNatClampNeg (((140 : Int32) * (σ 123 14)) + (σ 128 (Int32.toNatClampNeg (σ 123 14)))))); if (s316 123 4) = (-1 : Int32) then (let r320 := (f12_look s317); if r320.1 = (63 : Int32) then (let s321 := sp r320.2 123 3 ((r320.2 123 3) + (1 : Int32)); let s322 := sp s321 130 (Int32.toNatClampNeg (((140 : Int32) * (σ 123 14)) + (σ 128 (Int32.toNatClampNeg (σ 123 14))))) (r320.2 127 (Int32.toNatClampNeg (r320.2 123 14))); let s323 := (f12_sumR s322); let s324 := sp s323 131 (Int32.toNatClampNeg (((140 : Int32) * (σ 123 14)) + (σ 128 (Int32.toNatClampNeg (σ 123 14))))) (s323 127 (Int32.toNatClampNeg (s323 123 14))); let s325 := sp s324 128 (Int32.toNatClampNeg (s323 123 14)) ((s323 128 (Int32.toNatClampNeg (s323 123 14))) + (1 : Int32)); s325) else (let s326 := (f12_bad r320.2); s326)) else (let s318 := sp s317 131 (Int32.toNatClampNeg (((140 : Int32) * (σ 123 14)) + (σ 128 (Int32.toNatClampNeg (σ 123 14))))) (s316 127 (Int32.toNatClampNeg (s316 123 14))); let s319 := sp s318 128 (Int32.toNatClampNeg (s316 123 14)) ((s316 128 (Int32.toNatClampNeg (s316 123 14))) + (1 : Int32)); s319)) else (let s311 := sp r310.2 130 (Int32.toNatClampNeg (((140 : Int32) * (σ 123 14)) + (σ 128 (Int32.toNatClampNeg (σ 123 14))))) (r310.2 129 (Int32.toNatClampNeg (((140 : Int32) * (σ 123 14)) + (σ 128 (Int32.toNatClampNeg (σ 123 14)))))); let s312 := sp s311 131 (Int32.toNatClampNeg (((140 : Int32) * (σ 123 14)) + (σ 128 (Int32.toNatClampNeg (σ 123 14))))) (r310.2 127 (Int32.toNatClampNeg (r310.2 123 14))); let s313 := sp s312 128 (Int32.toNatClampNeg (r310.2 123 14)) ((r310.2 128 (Int32.toNatClampNeg (r310.2 123 14))) + (1 : Int32)); s313)) else (let s307 := sp s306 130 (Int32.toNatClampNeg (((140 : Int32) * (σ 123 14)) + (σ 128 (Int32.toNatClampNeg (σ 123 14))))) (s306 129 (Int32.toNatClampNeg (((140 : Int32) * (σ 123 14)) + (σ 128 (Int32.toNatClampNeg (σ 123 14)))))); let s308 := sp s307 131 (Int32.toNatClampNeg (((140 : Int32) * (σ 123 14)) + (σ 128 (Int32.toNatClampNeg (σ 123 14))))) (s306 127 (Int32.toNatClampNeg (s306 123 14))); let s309 := sp s308 128 (Int32.toNatClampNeg (s306 123 14)) ((s306 128 (Int32.toNatClampNeg (s306 123 14))) + (1 : Int32)); s309)))) else s291))) else (let s0 := sp σ 123 3 ((σ 123 3) + (1 : Int32)); if (σ 123 4) = (-1 : Int32) then (let r48 := (f12_look s0); if r48.1 = (58 : Int32) then (let s49 := sp r48.2 123 3 ((r48.2 123 3) + (1 : Int32)); if (r48.2 123 4) = (-1 : Int32) then (let s50 := sp s49 129 (Int32.toNatClampNeg (((140 : Int32) * (σ 123 14)) + (σ 128 (Int32.toNatClampNeg (σ 123 14))))) (r48.2 127 (Int32.toNatClampNeg (r48.2 123 14))); let r51 := (f12_look s50); if r51.1 = (33 : Int32) then (let s52 := (f12_conditionR r51.2); let s53 := sp s52 130 (Int32.toNatClampNeg (((140 : Int32) * (σ 123 14)) + (σ 128 (Int32.toNatClampNeg (σ 123 14))))) (s52 129 (Int32.toNatClampNeg (((140 : Int32) * (σ 123 14)) + (σ 128 (Int32.toNatClampNeg (σ 123 14)))))); if (s52 123 4) = (-1 : Int32) then (let r56 := (f12_look s53); if r56.1 = (63 : Int32) then (let s57 := sp r56.2 123 3 ((r56.2 123 3) + (1 : Int32)); let s58 := sp s57 130 (Int32.toNatClampNeg (((140 : Int32) * (σ 123 14)) + (σ 128 (Int32.toNatClampNeg (σ 123 14))))) (r56.2 127 (Int32.toNatClampNeg (r56.2 123 14))); let s59 := (f12_sumR s58); let s60 := sp s59 131 (Int32.toNatClampNeg (((140 : Int32) * (σ 123 14)) + (σ 128 (Int32.toNatClampNeg (σ 123 14))))) (s59 127 (Int32.toNatClampNeg (s59 123 14))); let s61 := sp s60 128 (Int32.toNatClampNeg (s59 123 14)) ((s59 128 (Int32.toNatClampNeg (s59 123 14))) + (1 : Int32)); s61) else (let s62 := (f12_bad r56.2); s62)) else (let s54 := sp s53 131 (Int32.toNatClampNeg (((140 : Int32) * (σ 123 14)) + (σ 128 (Int32.toNatClampNeg (σ 123 14))))) (s52 127 (Int32.toNatClampNeg (s52 123 14))); let s55 := sp s54 128 (Int32.toNatClampNeg (s52 123 14)) ((s52 128 (Int32.toNatClampNeg (s52 123 14))) + (1 : Int32)); s55)) else (let r63 := (f12_look r51.2); if r63.1 = (40 : Int32) then (let s85 := (f12_conditionR r63.2); let s86 := sp s85 130 (Int32.toNatClampNeg (((140 : Int32) * (σ 123 14)) + (σ 128 (Int32.toNatClampNeg (σ 123 14))))) (s85 129 (Int32.toNatClampNeg (((140 : Int32) * (σ 123 14)) + (σ 128 (Int32.toNatClampNeg (σ 123 14)))))); if (s85 123 4) = (-1 : Int32) then (let r89 := (f12_look s86); if r89.1 = (63 : Int32) then (let s90 := sp r89.2 123 3 ((r89.2 123 3) + (1 : Int32)); let s91 := sp s90 130 (Int32.toNatClampNeg (((140 : Int32) * (σ 123 14)) + (σ 128 (Int32.toNatClampNeg (σ 123 14))))) (r89.2 127 (Int32.toNatClampNeg (r89.2 123 14))); let s92 := (f12_sumR s91); let s93 := sp s92 131 (Int32.toNatClampNeg (((140 : Int32) * (σ 123 14)) + (σ 128 (Int32.toNatClampNeg (σ 123 14))))) (s92 127 (Int32.toNatClampNeg (s92 123 14))); let s94 := sp s93 128 (Int32.toNatClampNeg (s92 123 14)) ((s92 128 (Int32.toNatClampNeg (s92 123 14))) + (1 : Int32)); s94) else (let s95 := (f12_bad r89.2); s95)) else (let s87 := sp s86 131 (Int32.toNatClampNeg (((140 : Int32) * (σ 123 14)) + (σ 128 (Int32.toNatClampNeg (σ 123 14))))) (s85 127 (Int32.toNatClampNeg (s85 123 14))); let s88 := sp s87 128 (Int32.toNatClampNeg (s85 123 14)) ((s85 128 (Int32.toNatClampNeg (s85 123 14))) + (1 : Int32)); s88)) else (let s64 := (f12_sumR r63.2); if (s64 123 4) = (-1 : Int32) then (let r68 := (f12_look s64); if (f12_isSign r68.1) = true then (let s72 := (f12_compare r68.2); let s73 := (f12_goOnAndR s72); let s74 := (f12_goOnOrR s73); let s75 := sp s74 130 (Int32.toNatClampNeg (((140 : Int32) * (σ 123 14)) + (σ 128 (Int32.toNatClampNeg (σ 123 14))))) (s74 129 (Int32.toNatClampNeg (((140 : Int32) * (σ 123 14)) + (σ 128 (Int32.toNatClampNeg (σ 123 14)))))); if (s74 123 4) = (-1 : Int32) then (let r78 := (f12_look s75); if r78.1 = (63 : Int32) then (let s79 := sp r78.2 123 3 ((r78.2 123 3) + (1 : Int32)); let s80 := sp s79 130 (Int32.toNatClampNeg (((140 : Int32) * (σ 123 14)) + (σ 128 (Int32.toNatClampNeg (σ 123 14))))) (r78.2 127 (Int32.toNatClampNeg (r78.2 123 14))); let s81 := (f12_sumR s80); let s82 := sp s81 131 (Int32.toNatClampNeg (((140 : Int32) * (σ 123 14)) + (σ 128 (Int32.toNatClampNeg (σ 123 14))))) (s81 127 (Int32.toNatClampNeg (s81 123 14))); let s83 := sp s82 128 (Int32.toNatClampNeg (s81 123 14)) ((s81 128 (Int32.toNatClampNeg (s81 123 14))) + (1 : Int32)); s83) else (let s84 := (f12_bad r78.2); s84)) else (let s76 := sp s75 131 (Int32.toNatClampNeg (((140 : Int32) * (σ 123 14)) + (σ 128 (Int32.toNatClampNeg (σ 123 14))))) (s74 127 (Int32.toNatClampNeg (s74 123 14))); let s77 := sp s76 128 (Int32.toNatClampNeg (s74 123 14)) ((s74 128 (Int32.toNatClampNeg (s74 123 14))) + (1 : Int32)); s77)) else (let s69 := sp r68.2 130 (Int32.toNatClampNeg (((140 : Int32) * (σ 123 14)) + (σ 128 (Int32.toNatClampNeg (σ 123 14))))) (r68.2 129 (Int32.toNatClampNeg (((140 : Int32) * (σ 123 14)) + (σ 128 (Int32.toNatClampNeg (σ 123 14)))))); let s70 := sp s69 131 (Int32.toNatClampNeg (((140 : Int32) * (σ 123 14)) + (σ 128 (Int32.toNatClampNeg (σ 123 14))))) (r68.2 127 (Int32.toNatClampNeg (r68.2 123 14))); let s71 := sp s70 128 (Int32.toNatClampNeg (r68.2 123 14)) ((r68.2 128 (Int32.toNatClampNeg (r68.2 123 14))) + (1 : Int32)); s71)) else (let s65 := sp s64 130 (Int32.toNatClampNeg (((140 : Int32) * (σ 123 14)) + (σ 128 (Int32.toNatClampNeg (σ 123 14))))) (s64 129 (Int32.toNatClampNeg (((140 : Int32) * (σ 123 14)) + (σ 128 (Int32.toNatClampNeg (σ 123 14)))))); let s66 := sp s65 131 (Int32.toNatClampNeg (((140 : Int32) * (σ 123 14)) + (σ 128 (Int32.toNatClampNeg (σ 123 14))))) (s64 127 (Int32.toNatClampNeg (s64 123 14))); let s67 := sp s66 128 (Int32.toNatClampNeg (s64 123 14)) ((s64 128 (Int32.toNatClampNeg (s64 123 14))) + (1 : Int32)); s67)))) else s49) else (let s96 := (f12_bad r48.2); let s97 := sp s96 123 3 ((s96 123 3) + (1 : Int32)); if (s96 123 4) = (-1 : Int32) then (let s98 := sp s97 129 (Int32.toNatClampNeg (((140 : Int32) * (σ 123 14)) + (σ 128 (Int32.toNatClampNeg (σ 123 14))))) (s96 127 (Int32.toNatClampNeg (s96 123 14))); let r99 := (f12_look s98); if r99.1 = (33 : Int32) then (let s100 := (f12_conditionR r99.2); let s101 := sp s100 130 (Int32.toNatClampNeg (((140 : Int32) * (σ 123 14)) + (σ 128 (Int32.toNatClampNeg (σ 123 14))))) (s100 129 (Int32.toNatClampNeg (((140 : Int32) * (σ 123 14)) + (σ 128 (Int32.toNatClampNeg (σ 123 14)))))); if (s100 123 4) = (-1 : Int32) then (let r104 := (f12_look s101); if r104.1 = (63 : Int32) then (let s105 := sp r104.2 123 3 ((r104.2 123 3) + (1 : Int32)); let s106 := sp s105 130 (Int32.toNatClampNeg (((140 : Int32) * (σ 123 14)) + (σ 128 (Int32.toNatClampNeg (σ 123 14))))) (r104.2 127 (Int32.toNatClampNeg (r104.2 123 14))); let s107 := (f12_sumR s106); let s108 := sp s107 131 (Int32.toNatClampNeg (((140 : Int32) * (σ 123 14)) + (σ 128 (Int32.toNatClampNeg (σ 123 14))))) (s107 127 (Int32.toNatClampNeg (s107 123 14))); let s109 := sp s108 128 (Int32.toNatClampNeg (s107 123 14)) ((s107 128 (Int32.toNatClampNeg (s107 123 14))) + (1 : Int32)); s109) else (let s110 := (f12_bad r104.2); s110)) else (let s102 := sp s101 131 (Int32.toNatClampNeg (((140 : Int32) * (σ 123 14)) + (σ 128 (Int32.toNatClampNeg (σ 123 14))))) (s100 127 (Int32.toNatClampNeg (s100 123 14))); let s103 := sp s102 128 (Int32.toNatClampNeg (s100 123 14)) ((s100 128 (Int32.toNatClampNeg (s100 123 14))) + (1 : Int32)); s103)) else (let r111 := (f12_look r99.2); if r111.1 = (40 : Int32) then (let s133 := (f12_conditionR r111.2); let s134 := sp s133 130 (Int32.toNatClampNeg (((140 : Int32) * (σ 123 14)) + (σ 128 (Int32.toNatClampNeg (σ 123 14))))) (s133 129 (Int32.toNatClampNeg (((140 : Int32) * (σ 123 14)) + (σ 128 (Int32.toNatClampNeg (σ 123 14)))))); if (s133 123 4) = (-1 : Int32) then (let r137 := (f12_look s134); if r137.1 = (63 : Int32) then (let s138 := sp r137.2 123 3 ((r137.2 123 3) + (1 : Int32)); let s139 := sp s138 130 (Int32.toNatClampNeg (((140 : Int32) * (σ 123 14)) + (σ 128 (Int32.toNatClampNeg (σ 123 14))))) (r137.2 127 (Int32.toNatClampNeg (r137.2 123 14))); let s140 := (f12_sumR s139); let s141 := sp s140 131 (Int32.toNatClampNeg (((140 : Int32) * (σ 123 14)) + (σ 128 (Int32.toNatClampNeg (σ 123 14))))) (s140 127 (Int32.toNatClampNeg (s140 123 14))); let s142 := sp s141 128 (Int32.toNatClampNeg (s140 123 14)) ((s140 128 (Int32.toNatClampNeg (s140 123 14))) + (1 : Int32)); s142) else (let s143 := (f12_bad r137.2); s143)) else (let s135 := sp s134 131 (Int32.toNatClampNeg (((140 : Int32) * (σ 123 14)) + (σ 128 (Int32.toNatClampNeg (σ 123 14))))) (s133 127 (Int32.toNatClampNeg (s133 123 14))); let s136 := sp s135 128 (Int32.toNatClampNeg (s133 123 14)) ((s133 128 (Int32.toNatClampNeg (s133 123 14))) + (1 : Int32)); s136)) else (let s112 := (f12_sumR r111.2); if (s112 123 4) = (-1 : Int32) then (let r116 := (f12_look s112); if (f12_isSign r116.1) = true then (let s120 := (f12_compare r116.2); let s121 := (f12_goOnAndR s120); let s122 := (f12_goOnOrR s121); let s123 := sp s122 130 (Int32.toNatClampNeg (((140 : Int32) * (σ 123 14)) + (σ 128 (Int32.toNatClampNeg (σ 123 14))))) (s122 129 (Int32.toNatClampNeg (((140 : Int32) * (σ 123 14)) + (σ 128 (Int32.toNatClampNeg (σ 123 14)))))); if (s122 123 4) = (-1 : Int32) then (let r126 := (f12_look s123); if r126.1 = (63 : Int32) then (let s127 := sp r126.2 123 3 ((r126.2 123 3) + (1 : Int32)); let s128 := sp s127 130 (Int32.toNatClampNeg (((140 : Int32) * (σ 123 14)) + (σ 128 (Int32.toNatClampNeg (σ 123 14))))) (r126.2 127 (Int32.toNatClampNeg (r126.2 123 14))); let s129 := (f12_sumR s128); let s130 := sp s129 131 (Int32.toNatClampNeg (((140 : Int32) * (σ 123 14)) + (σ 128 (Int32.toNatClampNeg (σ 123 14))))) (s129 127 (Int32.toNatClampNeg (s129 123 14))); let s131 := sp s130 128 (Int32.toNatClampNeg (s129 123 14)) ((s129 128 (Int32.toNatClampNeg (s129 123 14))) + (1 : Int32)); s131) else (let s132 := (f12_bad r126.2); s132)) else (let s124 := sp s123 131 (Int32.toNatClampNeg (((140 : Int32) * (σ 123 14)) + (σ 128 (Int32.toNatClampNeg (σ 123 14))))) (s122 127 (Int32.toNatClampNeg (s122 123 14))); let s125 := sp s124 128 (Int32.toNatClampNeg (s122 123 14)) ((s122 128 (Int32.toNatClampNeg (s122 123 14))) + (1 : Int32)); s125)) else (let s117 := sp r116.2 130 (Int32.toNatClampNeg (((140 : Int32) * (σ 123 14)) + (σ 128 (Int32.toNatClampNeg (σ 123 14))))) (r116.2 129 (Int32.toNatClampNeg (((140 : Int32) * (σ 123 14)) + (σ 128 (Int32.toNatClampNeg (σ 123 14)))))); let s118 := sp s117 131 (Int32.toNatClampNeg (((140 : Int32) * (σ 123 14)) + (σ 128 (Int32.toNatClampNeg (σ 123 14))))) (r116.2 127 (Int32.toNatClampNeg (r116.2 123 14))); let s119 := sp s118 128 (Int32.toNatClampNeg (r116.2 123 14)) ((r116.2 128 (Int32.toNatClampNeg (r116.2 123 14))) + (1 : Int32)); s119)) else (let s113 := sp s112 130 (Int32.toNatClampNeg (((140 : Int32) * (σ 123 14)) + (σ 128 (Int32.toNatClampNeg (σ 123 14))))) (s112 129 (Int32.toNatClampNeg (((140 : Int32) * (σ 123 14)) + (σ 128 (Int32.toNatClampNeg (σ 123 14)))))); let s114 := sp s113 131 (Int32.toNatClampNeg (((140 : Int32) * (σ 123 14)) + (σ 128 (Int32.toNatClampNeg (σ 123 14))))) (s112 127 (Int32.toNatClampNeg (s112 123 14))); let s115 := sp s114 128 (Int32.toNatClampNeg (s112 123 14)) ((s112 128 (Int32.toNatClampNeg (s112 123 14))) + (1 : Int32)); s115)))) else s97)) else (let s1 := sp s0 123 3 (((σ 123 3) + (1 : Int32)) + (1 : Int32)); if (σ 123 4) = (-1 : Int32) then (let s2 := sp s1 129 (Int32.toNatClampNeg (((140 : Int32) * (σ 123 14)) + (σ 128 (Int32.toNatClampNeg (σ 123 14))))) (σ 127 (Int32.toNatClampNeg (σ 123 14))); let r3 := (f12_look s2); if r3.1 = (33 : Int32) then (let s4 := (f12_conditionR r3.2); let s5 := sp s4 130 (Int32.toNatClampNeg (((140 : Int32) * (σ 123 14)) + (σ 128 (Int32.toNatClampNeg (σ 123 14))))) (s4 129 (Int32.toNatClampNeg (((140 : Int32) * (σ 123 14)) + (σ 128 (Int32.toNatClampNeg (σ 123 14)))))); if (s4 123 4) = (-1 : Int32) then (let r8 := (f12_look s5); if r8.1 = (63 : Int32) then (let s9 := sp r8.2 123 3 ((r8.2 123 3) + (1 : Int32)); let s10 := sp s9 130 (Int32.toNatClampNeg (((140 : Int32) * (σ 123 14)) + (σ 128 (Int32.toNatClampNeg (σ 123 14))))) (r8.2 127 (Int32.toNatClampNeg (r8.2 123 14))); let s11 := (f12_sumR s10); let s12 := sp s11 131 (Int32.toNatClampNeg (((140 : Int32) * (σ 123 14)) + (σ 128 (Int32.toNatClampNeg (σ 123 14))))) (s11 127 (Int32.toNatClampNeg (s11 123 14))); let s13 := sp s12 128 (Int32.toNatClampNeg (s11 123 14)) ((s11 128 (Int32.toNatClampNeg (s11 123 14))) + (1 : Int32)); s13) else (let s14 := (f12_bad r8.2); s14)) else (let s6 := sp s5 131 (Int32.toNatClampNeg (((140 : Int32) * (σ 123 14)) + (σ 128 (Int32.toNatClampNeg (σ 123 14))))) (s4 127 (Int32.toNatClampNeg (s4 123 14))); let s7 := sp s6 128 (Int32.toNatClampNeg (s4 123 14)) ((s4 128 (Int32.toNatClampNeg (s4 123 14))) + (1 : Int32)); s7)) else (let r15 := (f12_look r3.2); if r15.1 = (40 : Int32) then (let s37 := (f12_conditionR r15.2); let s38 := sp s37 130 (Int32.toNatClampNeg (((140 : Int32) * (σ 123 14)) + (σ 128 (Int32.toNatClampNeg (σ 123 14))))) (s37 129 (Int32.toNatClampNeg (((140 : Int32) * (σ 123 14)) + (σ 128 (Int32.toNatClampNeg (σ 123 14)))))); if (s37 123 4) = (-1 : Int32) then (let r41 := (f12_look s38); if r41.1 = (63 : Int32) then (let s42 := sp r41.2 123 3 ((r41.2 123 3) + (1 : Int32)); let s43 := sp s42 130 (Int32.toNatClampNeg (((140 : Int32) * (σ 123 14)) + (σ 128 (Int32.toNatClampNeg (σ 123 14))))) (r41.2 127 (Int32.toNatClampNeg (r41.2 123 14))); let s44 := (f12_sumR s43); let s45 := sp s44 131 (Int32.toNatClampNeg (((140 : Int32) * (σ 123 14)) + (σ 128 (Int32.toNatClampNeg (σ 123 14))))) (s44 127 (Int32.toNatClampNeg (s44 123 14))); let s46 := sp s45 128 (Int32.toNatClampNeg (s44 123 14)) ((s44 128 (Int32.toNatClampNeg (s44 123 14))) + (1 : Int32)); s46) else (let s47 := (f12_bad r41.2); s47)) else (let s39 := sp s38 131 (Int32.toNatClampNeg (((140 : Int32) * (σ 123 14)) + (σ 128 (Int32.toNatClampNeg (σ 123 14))))) (s37 127 (Int32.toNatClampNeg (s37 123 14))); let s40 := sp s39 128 (Int32.toNatClampNeg (s37 123 14)) ((s37 128 (Int32.toNatClampNeg (s37 123 14))) + (1 : Int32)); s40)) else (let s16 := (f12_sumR r15.2); if (s16 123 4) = (-1 : Int32) then (let r20 := (f12_look s16); if (f12_isSign r20.1) = true then (let s24 := (f12_compare r20.2); let s25 := (f12_goOnAndR s24); let s26 := (f12_goOnOrR s25); let s27 := sp s26 130 (Int32.toNatClampNeg (((140 : Int32) * (σ 123 14)) + (σ 128 (Int32.toNatClampNeg (σ 123 14))))) (s26 129 (Int32.toNatClampNeg (((140 : Int32) * (σ 123 14)) + (σ 128 (Int32.toNatClampNeg (σ 123 14)))))); if (s26 123 4) = (-1 : Int32) then (let r30 := (f12_look s27); if r30.1 = (63 : Int32) then (let s31 := sp r30.2 123 3 ((r30.2 123 3) + (1 : Int32)); let s32 := sp s31 130 (Int32.toNatClampNeg (((140 : Int32) * (σ 123 14)) + (σ 128 (Int32.toNatClampNeg (σ 123 14))))) (r30.2 127 (Int32.toNatClampNeg (r30.2 123 14))); let s33 := (f12_sumR s32); let s34 := sp s33 131 (Int32.toNatClampNeg (((140 : Int32) * (σ 123 14)) + (σ 128 (Int32.toNatClampNeg (σ 123 14))))) (s33 127 (Int32.toNatClampNeg (s33 123 14))); let s35 := sp s34 128 (Int32.toNatClampNeg (s33 123 14)) ((s33 128 (Int32.toNatClampNeg (s33 123 14))) + (1 : Int32)); s35) else (let s36 := (f12_bad r30.2); s36)) else (let s28 := sp s27 131 (Int32.toNatClampNeg (((140 : Int32) * (σ 123 14)) + (σ 128 (Int32.toNatClampNeg (σ 123 14))))) (s26 127 (Int32.toNatClampNeg (s26 123 14))); let s29 := sp s28 128 (Int32.toNatClampNeg (s26 123 14)) ((s26 128 (Int32.toNatClampNeg (s26 123 14))) + (1 : Int32)); s29)) else (let s21 := sp r20.2 130 (Int32.toNatClampNeg (((140 : Int32) * (σ 123 14)) + (σ 128 (Int32.toNatClampNeg (σ 123 14))))) (r20.2 129 (Int32.toNatClampNeg (((140 : Int32) * (σ 123 14)) + (σ 128 (Int32.toNatClampNeg (σ 123 14)))))); let s22 := sp s21 131 (Int32.toNatClampNeg (((140 : Int32) * (σ 123 14)) + (σ 128 (Int32.toNatClampNeg (σ 123 14))))) (r20.2 127 (Int32.toNatClampNeg (r20.2 123 14))); let s23 := sp s22 128 (Int32.toNatClampNeg (r20.2 123 14)) ((r20.2 128 (Int32.toNatClampNeg (r20.2 123 14))) + (1 : Int32)); s23)) else (let s17 := sp s16 130 (Int32.toNatClampNeg (((140 : Int32) * (σ 123 14)) + (σ 128 (Int32.toNatClampNeg (σ 123 14))))) (s16 129 (Int32.toNatClampNeg (((140 : Int32) * (σ 123 14)) + (σ 128 (Int32.toNatClampNeg (σ 123 14)))))); let s18 := sp s17 131 (Int32.toNatClampNeg (((140 : Int32) * (σ 123 14)) + (σ 128 (Int32.toNatClampNeg (σ 123 14))))) (s16 127 (Int32.toNatClampNeg (s16 123 14))); let s19 := sp s18 128 (Int32.toNatClampNeg (s16 123 14)) ((s16 128 (Int32.toNatClampNeg (s16 123 14))) + (1 : Int32)); s19)))) else s1))
noncomputable def o12_clause (σ : SI) : Prop := (vp_in (σ 123 14) 5) ∧ (if (σ 123 4) = (-1 : Int32) then ((o12_look σ) ∧ (let r144 := (f12_look σ); if r144.1 = (121 : Int32) then (let s145 := sp r144.2 123 3 ((r144.2 123 3) + (1 : Int32)); if (r144.2 123 4) = (-1 : Int32) then ((o12_look s145) ∧ (let r193 := (f12_look s145); if r193.1 = (58 : Int32) then (let s194 := sp r193.2 123 3 ((r193.2 123 3) + (1 : Int32)); if (r193.2 123 4) = (-1 : Int32) then ((vp_in (r193.2 123 14) 5) ∧ ((vp_in (((140 : Int32) * (σ 123 14)) + (σ 128 (Int32.toNatClampNeg (σ 123 14)))) 700) ∧ (let s195 := sp s194 129 (Int32.toNatClampNeg (((140 : Int32) * (σ 123 14)) + (σ 128 (Int32.toNatClampNeg (σ 123 14))))) (r193.2 127 (Int32.toNatClampNeg (r193.2 123 14))); (o12_look s195) ∧ (let r196 := (f12_look s195); if r196.1 = (33 : Int32) then ((o12_conditionR r196.2) ∧ (let s197 := (f12_conditionR r196.2); (vp_in (((140 : Int32) * (σ 123 14)) + (σ 128 (Int32.toNatClampNeg (σ 123 14)))) 700) ∧ ((vp_in (((140 : Int32) * (σ 123 14)) + (σ 128 (Int32.toNatClampNeg (σ 123 14)))) 700) ∧ (let s198 := sp s197 130 (Int32.toNatClampNeg (((140 : Int32) * (σ 123 14)) + (σ 128 (Int32.toNatClampNeg (σ 123 14))))) (s197 129 (Int32.toNatClampNeg (((140 : Int32) * (σ 123 14)) + (σ 128 (Int32.toNatClampNeg (σ 123 14)))))); if (s197 123 4) = (-1 : Int32) then ((o12_look s198) ∧ (let r201 := (f12_look s198); if r201.1 = (63 : Int32) then (let s202 := sp r201.2 123 3 ((r201.2 123 3) + (1 : Int32)); (vp_in (r201.2 123 14) 5) ∧ ((vp_in (((140 : Int32) * (σ 123 14)) + (σ 128 (Int32.toNatClampNeg (σ 123 14)))) 700) ∧ (let s203 := sp s202 130 (Int32.toNatClampNeg (((140 : Int32) * (σ 123 14)) + (σ 128 (Int32.toNatClampNeg (σ 123 14))))) (r201.2 127 (Int32.toNatClampNeg (r201.2 123 14))); (o12_sumR s203) ∧ (let s204 := (f12_sumR s203); (vp_in (s204 123 14) 5) ∧ ((vp_in (((140 : Int32) * (σ 123 14)) + (σ 128 (Int32.toNatClampNeg (σ 123 14)))) 700) ∧ (let s205 := sp s204 131 (Int32.toNatClampNeg (((140 : Int32) * (σ 123 14)) + (σ 128 (Int32.toNatClampNeg (σ 123 14))))) (s204 127 (Int32.toNatClampNeg (s204 123 14))); (vp_in (s204 123 14) 5) ∧ ((vp_in (s204 123 14) 5) ∧ (let s206 := sp s205 128 (Int32.toNatClampNeg (s204 123 14)) ((s204 128 (Int32.toNatClampNeg (s204 123 14))) + (1 : Int32)); True)))))))) else (let s207 := (f12_bad r201.2); True))) else ((vp_in (s197 123 14) 5) ∧ ((vp_in (((140 : Int32) * (σ 123 14)) + (σ 128 (Int32.toNatClampNeg (σ 123 14)))) 700) ∧ (let s199 := sp s198 131 (Int32.toNatClampNeg (((140 : Int32) * (σ 123 14)) + (σ 128 (Int32.toNatClampNeg (σ 123 14))))) (s197 127 (Int32.toNatClampNeg (s197 123 14))); (vp_in (s197 123 14) 5) ∧ ((vp_in (s197 123 14) 5) ∧ (let s200 := sp s199 128 (Int32.toNatClampNeg (s197 123 14)) ((s197 128 (Int32.toNatClampNeg (s197 123 14))) + (1 : Int32)); True))))))))) else ((o12_look r196.2) ∧ (let r208 := (f12_look r196.2); if r208.1 = (40 : Int32) then ((o12_conditionR r208.2) ∧ (let s230 := (f12_conditionR r208.2); (vp_in (((140 : Int32) * (σ 123 14)) + (σ 128 (Int32.toNatClampNeg (σ 123 14)))) 700) ∧ ((vp_in (((140 : Int32) * (σ 123 14)) + (σ 128 (Int32.toNatClampNeg (σ 123 14)))) 700) ∧ (let s231 := sp s230 130 (Int32.toNatClampNeg (((140 : Int32) * (σ 123 14)) + (σ 128 (Int32.toNatClampNeg (σ 123 14))))) (s230 129 (Int32.toNatClampNeg (((140 : Int32) * (σ 123 14)) + (σ 128 (Int32.toNatClampNeg (σ 123 14)))))); if (s230 123 4) = (-1 : Int32) then ((o12_look s231) ∧ (let r234 := (f12_look s231); if r234.1 = (63 : Int32) then (let s235 := sp r234.2 123 3 ((r234.2 123 3) + (1 : Int32)); (vp_in (r234.2 123 14) 5) ∧ ((vp_in (((140 : Int32) * (σ 123 14)) + (σ 128 (Int32.toNatClampNeg (σ 123 14)))) 700) ∧ (let s236 := sp s235 130 (Int32.toNatClampNeg (((140 : Int32) * (σ 123 14)) + (σ 128 (Int32.toNatClampNeg (σ 123 14))))) (r234.2 127 (Int32.toNatClampNeg (r234.2 123 14))); (o12_sumR s236) ∧ (let s237 := (f12_sumR s236); (vp_in (s237 123 14) 5) ∧ ((vp_in (((140 : Int32) * (σ 123 14)) + (σ 128 (Int32.toNatClampNeg (σ 123 14)))) 700) ∧ (let s238 := sp s237 131 (Int32.toNatClampNeg (((140 : Int32) * (σ 123 14)) + (σ 128 (Int32.toNatClampNeg (σ 123 14))))) (s237 127 (Int32.toNatClampNeg (s237 123 14))); (vp_in (s237 123 14) 5) ∧ ((vp_in (s237 123 14) 5) ∧ (let s239 := sp s238 128 (Int32.toNatClampNeg (s237 123 14)) ((s237 128 (Int32.toNatClampNeg (s237 123 14))) + (1 : Int32)); True)))))))) else (let s240 := (f12_bad r234.2); True))) else ((vp_in (s230 123 14) 5) ∧ ((vp_in (((140 : Int32) * (σ 123 14)) + (σ 128 (Int32.toNatClampNeg (σ 123 14)))) 700) ∧ (let s232 := sp s231 131 (Int32.toNatClampNeg (((140 : Int32) * (σ 123 14)) + (σ 128 (Int32.toNatClampNeg (σ 123 14))))) (s230 127 (Int32.toNatClampNeg (s230 123 14))); (vp_in (s230 123 14) 5) ∧ ((vp_in (s230 123 14) 5) ∧ (let s233 := sp s232 128 (Int32.toNatClampNeg (s230 123 14)) ((s230 128 (Int32.toNatClampNeg (s230 123 14))) + (1 : Int32)); True))))))))) else ((o12_sumR r208.2) ∧ (let s209 := (f12_sumR r208.2); if (s209 123 4) = (-1 : Int32) then ((o12_look s209) ∧ (let r213 := (f12_look s209); if (f12_isSign r213.1) = true then ((o12_compare r213.2) ∧ (let s217 := (f12_compare r213.2); (o12_goOnAndR s217) ∧ (let s218 := (f12_goOnAndR s217); (o12_goOnOrR s218) ∧ (let s219 := (f12_goOnOrR s218); (vp_in (((140 : Int32) * (σ 123 14)) + (σ 128 (Int32.toNatClampNeg (σ 123 14)))) 700) ∧ ((vp_in (((140 : Int32) * (σ 123 14)) + (σ 128 (Int32.toNatClampNeg (σ 123 14)))) 700) ∧ (let s220 := sp s219 130 (Int32.toNatClampNeg (((140 : Int32) * (σ 123 14)) + (σ 128 (Int32.toNatClampNeg (σ 123 14))))) (s219 129 (Int32.toNatClampNeg (((140 : Int32) * (σ 123 14)) + (σ 128 (Int32.toNatClampNeg (σ 123 14)))))); if (s219 123 4) = (-1 : Int32) then ((o12_look s220) ∧ (let r223 := (f12_look s220); if r223.1 = (63 : Int32) then (let s224 := sp r223.2 123 3 ((r223.2 123 3) + (1 : Int32)); (vp_in (r223.2 123 14) 5) ∧ ((vp_in (((140 : Int32) * (σ 123 14)) + (σ 128 (Int32.toNatClampNeg (σ 123 14)))) 700) ∧ (let s225 := sp s224 130 (Int32.toNatClampNeg (((140 : Int32) * (σ 123 14)) + (σ 128 (Int32.toNatClampNeg (σ 123 14))))) (r223.2 127 (Int32.toNatClampNeg (r223.2 123 14))); (o12_sumR s225) ∧ (let s226 := (f12_sumR s225); (vp_in (s226 123 14) 5) ∧ ((vp_in (((140 : Int32) * (σ 123 14)) + (σ 128 (Int32.toNatClampNeg (σ 123 14)))) 700) ∧ (let s227 := sp s226 131 (Int32.toNatClampNeg (((140 : Int32) * (σ 123 14)) + (σ 128 (Int32.toNatClampNeg (σ 123 14))))) (s226 127 (Int32.toNatClampNeg (s226 123 14))); (vp_in (s226 123 14) 5) ∧ ((vp_in (s226 123 14) 5) ∧ (let s228 := sp s227 128 (Int32.toNatClampNeg (s226 123 14)) ((s226 128 (Int32.toNatClampNeg (s226 123 14))) + (1 : Int32)); True)))))))) else (let s229 := (f12_bad r223.2); True))) else ((vp_in (s219 123 14) 5) ∧ ((vp_in (((140 : Int32) * (σ 123 14)) + (σ 128 (Int32.toNatClampNeg (σ 123 14)))) 700) ∧ (let s221 := sp s220 131 (Int32.toNatClampNeg (((140 : Int32) * (σ 123 14)) + (σ 128 (Int32.toNatClampNeg (σ 123 14))))) (s219 127 (Int32.toNatClampNeg (s219 123 14))); (vp_in (s219 123 14) 5) ∧ ((vp_in (s219 123 14) 5) ∧ (let s222 := sp s221 128 (Int32.toNatClampNeg (s219 123 14)) ((s219 128 (Int32.toNatClampNeg (s219 123 14))) + (1 : Int32)); True))))))))))) else ((vp_in (((140 : Int32) * (σ 123 14)) + (σ 128 (Int32.toNatClampNeg (σ 123 14)))) 700) ∧ ((vp_in (((140 : Int32) * (σ 123 14)) + (σ 128 (Int32.toNatClampNeg (σ 123 14)))) 700) ∧ (let s214 := sp r213.2 130 (Int32.toNatClampNeg (((140 : Int32) * (σ 123 14)) + (σ 128 (Int32.toNatClampNeg (σ 123 14))))) (r213.2 129 (Int32.toNatClampNeg (((140 : Int32) * (σ 123 14)) + (σ 128 (Int32.toNatClampNeg (σ 123 14)))))); (vp_in (r213.2 123 14) 5) ∧ ((vp_in (((140 : Int32) * (σ 123 14)) + (σ 128 (Int32.toNatClampNeg (σ 123 14)))) 700) ∧ (let s215 := sp s214 131 (Int32.toNatClampNeg (((140 : Int32) * (σ 123 14)) + (σ 128 (Int32.toNatClampNeg (σ 123 14))))) (r213.2 127 (Int32.toNatClampNeg (r213.2 123 14))); (vp_in (r213.2 123 14) 5) ∧ ((vp_in (r213.2 123 14) 5) ∧ (let s216 := sp s215 128 (Int32.toNatClampNeg (r213.2 123 14)) ((r213.2 128 (Int32.toNatClampNeg (r213.2 123 14))) + (1 : Int32)); True))))))))) else ((vp_in (((140 : Int32) * (σ 123 14)) + (σ 128 (Int32.toNatClampNeg (σ 123 14)))) 700) ∧ ((vp_in (((140 : Int32) * (σ 123 14)) + (σ 128 (Int32.toNatClampNeg (σ 123 14)))) 700) ∧ (let s210 := sp s209 130 (Int32.toNatClampNeg (((140 : Int32) * (σ 123 14)) + (σ 128 (Int32.toNatClampNeg (σ 123 14))))) (s209 129 (Int32.toNatClampNeg (((140 : Int32) * (σ 123 14)) + (σ 128 (Int32.toNatClampNeg (σ 123 14)))))); (vp_in (s209 123 14) 5) ∧ ((vp_in (((140 : Int32) * (σ 123 14)) + (σ 128 (Int32.toNatClampNeg (σ 123 14)))) 700) ∧ (let s211 := sp s210 131 (Int32.toNatClampNeg (((140 : Int32) * (σ 123 14)) + (σ 128 (Int32.toNatClampNeg (σ 123 14))))) (s209 127 (Int32.toNatClampNeg (s209 123 14))); (vp_in (s209 123 14) 5) ∧ ((vp_in (s209 123 14) 5) ∧ (let s212 := sp s211 128 (Int32.toNatClampNeg (s209 123 14)) ((s209 128 (Int32.toNatClampNeg (s209 123 14))) + (1 : Int32)); True))))))))))))))) else True) else (let s241 := (f12_bad r193.2); let s242 := sp s241 123 3 ((s241 123 3) + (1 : Int32)); if (s241 123 4) = (-1 : Int32) then ((vp_in (s241 123 14) 5) ∧ ((vp_in (((140 : Int32) * (σ 123 14)) + (σ 128 (Int32.toNatClampNeg (σ 123 14)))) 700) ∧ (let s243 := sp s242 129 (Int32.toNatClampNeg (((140 : Int32) * (σ 123 14)) + (σ 128 (Int32.toNatClampNeg (σ 123 14))))) (s241 127 (Int32.toNatClampNeg (s241 123 14))); (o12_look s243) ∧ (let r244 := (f12_look s243); if r244.1 = (33 : Int32) then ((o12_conditionR r244.2) ∧ (let s245 := (f12_conditionR r244.2); (vp_in (((140 : Int32) * (σ 123 14)) + (σ 128 (Int32.toNatClampNeg (σ 123 14)))) 700) ∧ ((vp_in (((140 : Int32) * (σ 123 14)) + (σ 128 (Int32.toNatClampNeg (σ 123 14)))) 700) ∧ (let s246 := sp s245 130 (Int32.toNatClampNeg (((140 : Int32) * (σ 123 14)) + (σ 128 (Int32.toNatClampNeg (σ 123 14))))) (s245 129 (Int32.toNatClampNeg (((140 : Int32) * (σ 123 14)) + (σ 128 (Int32.toNatClampNeg (σ 123 14)))))); if (s245 123 4) = (-1 : Int32) then ((o12_look s246) ∧ (let r249 := (f12_look s246); if r249.1 = (63 : Int32) then (let s250 := sp r249.2 123 3 ((r249.2 123 3) + (1 : Int32)); (vp_in (r249.2 123 14) 5) ∧ ((vp_in (((140 : Int32) * (σ 123 14)) + (σ 128 (Int32.toNatClampNeg (σ 123 14)))) 700) ∧ (let s251 := sp s250 130 (Int32.toNatClampNeg (((140 : Int32) * (σ 123 14)) + (σ 128 (Int32.toNatClampNeg (σ 123 14))))) (r249.2 127 (Int32.toNatClampNeg (r249.2 123 14))); (o12_sumR s251) ∧ (let s252 := (f12_sumR s251); (vp_in (s252 123 14) 5) ∧ ((vp_in (((140 : Int32) * (σ 123 14)) + (σ 128 (Int32.toNatClampNeg (σ 123 14)))) 700) ∧ (let s253 := sp s252 131 (Int32.toNatClampNeg (((140 : Int32) * (σ 123 14)) + (σ 128 (Int32.toNatClampNeg (σ 123 14))))) (s252 127 (Int32.toNatClampNeg (s252 123 14))); (vp_in (s252 123 14) 5) ∧ ((vp_in (s252 123 14) 5) ∧ (let s254 := sp s253 128 (Int32.toNatClampNeg (s252 123 14)) ((s252 128 (Int32.toNatClampNeg (s252 123 14))) + (1 : Int32)); True)))))))) else (let s255 := (f12_bad r249.2); True))) else ((vp_in (s245 123 14) 5) ∧ ((vp_in (((140 : Int32) * (σ 123 14)) + (σ 128 (Int32.toNatClampNeg (σ 123 14)))) 700) ∧ (let s247 := sp s246 131 (Int32.toNatClampNeg (((140 : Int32) * (σ 123 14)) + (σ 128 (Int32.toNatClampNeg (σ 123 14))))) (s245 127 (Int32.toNatClampNeg (s245 123 14))); (vp_in (s245 123 14) 5) ∧ ((vp_in (s245 123 14) 5) ∧ (let s248 := sp s247 128 (Int32.toNatClampNeg (s245 123 14)) ((s245 128 (Int32.toNatClampNeg (s245 123 14))) + (1 : Int32)); True))))))))) else ((o12_look r244.2) ∧ (let r256 := (f12_look r244.2); if r256.1 = (40 : Int32) then ((o12_conditionR r256.2) ∧ (let s278 := (f12_conditionR r256.2); (vp_in (((140 : Int32) * (σ 123 14)) + (σ 128 (Int32.toNatClampNeg (σ 123 14)))) 700) ∧ ((vp_in (((140 : Int32) * (σ 123 14)) + (σ 128 (Int32.toNatClampNeg (σ 123 14)))) 700) ∧ (let s279 := sp s278 130 (Int32.toNatClampNeg (((140 : Int32) * (σ 123 14)) + (σ 128 (Int32.toNatClampNeg (σ 123 14))))) (s278 129 (Int32.toNatClampNeg (((140 : Int32) * (σ 123 14)) + (σ 128 (Int32.toNatClampNeg (σ 123 14)))))); if (s278 123 4) = (-1 : Int32) then ((o12_look s279) ∧ (let r282 := (f12_look s279); if r282.1 = (63 : Int32) then (let s283 := sp r282.2 123 3 ((r282.2 123 3) + (1 : Int32)); (vp_in (r282.2 123 14) 5) ∧ ((vp_in (((140 : Int32) * (σ 123 14)) + (σ 128 (Int32.toNatClampNeg (σ 123 14)))) 700) ∧ (let s284 := sp s283 130 (Int32.toNatClampNeg (((140 : Int32) * (σ 123 14)) + (σ 128 (Int32.toNatClampNeg (σ 123 14))))) (r282.2 127 (Int32.toNatClampNeg (r282.2 123 14))); (o12_sumR s284) ∧ (let s285 := (f12_sumR s284); (vp_in (s285 123 14) 5) ∧ ((vp_in (((140 : Int32) * (σ 123 14)) + (σ 128 (Int32.toNatClampNeg (σ 123 14)))) 700) ∧ (let s286 := sp s285 131 (Int32.toNatClampNeg (((140 : Int32) * (σ 123 14)) + (σ 128 (Int32.toNatClampNeg (σ 123 14))))) (s285 127 (Int32.toNatClampNeg (s285 123 14))); (vp_in (s285 123 14) 5) ∧ ((vp_in (s285 123 14) 5) ∧ (let s287 := sp s286 128 (Int32.toNatClampNeg (s285 123 14)) ((s285 128 (Int32.toNatClampNeg (s285 123 14))) + (1 : Int32)); True)))))))) else (let s288 := (f12_bad r282.2); True))) else ((vp_in (s278 123 14) 5) ∧ ((vp_in (((140 : Int32) * (σ 123 14)) + (σ 128 (Int32.toNatClampNeg (σ 123 14)))) 700) ∧ (let s280 := sp s279 131 (Int32.toNatClampNeg (((140 : Int32) * (σ 123 14)) + (σ 128 (Int32.toNatClampNeg (σ 123 14))))) (s278 127 (Int32.toNatClampNeg (s278 123 14))); (vp_in (s278 123 14) 5) ∧ ((vp_in (s278 123 14) 5) ∧ (let s281 := sp s280 128 (Int32.toNatClampNeg (s278 123 14)) ((s278 128 (Int32.toNatClampNeg (s278 123 14))) + (1 : Int32)); True))))))))) else ((o12_sumR r256.2) ∧ (let s257 := (f12_sumR r256.2); if (s257 123 4) = (-1 : Int32) then ((o12_look s257) ∧ (let r261 := (f12_look s257); if (f12_isSign r261.1) = true then ((o12_compare r261.2) ∧ (let s265 := (f12_compare r261.2); (o12_goOnAndR s265) ∧ (let s266 := (f12_goOnAndR s265); (o12_goOnOrR s266) ∧ (let s267 := (f12_goOnOrR s266); (vp_in (((140 : Int32) * (σ 123 14)) + (σ 128 (Int32.toNatClampNeg (σ 123 14)))) 700) ∧ ((vp_in (((140 : Int32) * (σ 123 14)) + (σ 128 (Int32.toNatClampNeg (σ 123 14)))) 700) ∧ (let s268 := sp s267 130 (Int32.toNatClampNeg (((140 : Int32) * (σ 123 14)) + (σ 128 (Int32.toNatClampNeg (σ 123 14))))) (s267 129 (Int32.toNatClampNeg (((140 : Int32) * (σ 123 14)) + (σ 128 (Int32.toNatClampNeg (σ 123 14)))))); if (s267 123 4) = (-1 : Int32) then ((o12_look s268) ∧ (let r271 := (f12_look s268); if r271.1 = (63 : Int32) then (let s272 := sp r271.2 123 3 ((r271.2 123 3) + (1 : Int32)); (vp_in (r271.2 123 14) 5) ∧ ((vp_in (((140 : Int32) * (σ 123 14)) + (σ 128 (Int32.toNatClampNeg (σ 123 14)))) 700) ∧ (let s273 := sp s272 130 (Int32.toNatClampNeg (((140 : Int32) * (σ 123 14)) + (σ 128 (Int32.toNatClampNeg (σ 123 14))))) (r271.2 127 (Int32.toNatClampNeg (r271.2 123 14))); (o12_sumR s273) ∧ (let s274 := (f12_sumR s273); (vp_in (s274 123 14) 5) ∧ ((vp_in (((140 : Int32) * (σ 123 14)) + (σ 128 (Int32.toNatClampNeg (σ 123 14)))) 700) ∧ (let s275 := sp s274 131 (Int32.toNatClampNeg (((140 : Int32) * (σ 123 14)) + (σ 128 (Int32.toNatClampNeg (σ 123 14))))) (s274 127 (Int32.toNatClampNeg (s274 123 14))); (vp_in (s274 123 14) 5) ∧ ((vp_in (s274 123 14) 5) ∧ (let s276 := sp s275 128 (Int32.toNatClampNeg (s274 123 14)) ((s274 128 (Int32.toNatClampNeg (s274 123 14))) + (1 : Int32)); True)))))))) else (let s277 := (f12_bad r271.2); True))) else ((vp_in (s267 123 14) 5) ∧ ((vp_in (((140 : Int32) * (σ 123 14)) + (σ 128 (Int32.toNatClampNeg (σ 123 14)))) 700) ∧ (let s269 := sp s268 131 (Int32.toNatClampNeg (((140 : Int32) * (σ 123 14)) + (σ 128 (Int32.toNatClampNeg (σ 123 14))))) (s267 127 (Int32.toNatClampNeg (s267 123 14))); (vp_in (s267 123 14) 5) ∧ ((vp_in (s267 123 14) 5) ∧ (let s270 := sp s269 128 (Int32.toNatClampNeg (s267 123 14)) ((s267 128 (Int32.toNatClampNeg (s267 123 14))) + (1 : Int32)); True))))))))))) else ((vp_in (((140 : Int32) * (σ 123 14)) + (σ 128 (Int32.toNatClampNeg (σ 123 14)))) 700) ∧ ((vp_in (((140 : Int32) * (σ 123 14)) + (σ 128 (Int32.toNatClampNeg (σ 123 14)))) 700) ∧ (let s262 := sp r261.2 130 (Int32.toNatClampNeg (((140 : Int32) * (σ 123 14)) + (σ 128 (Int32.toNatClampNeg (σ 123 14))))) (r261.2 129 (Int32.toNatClampNeg (((140 : Int32) * (σ 123 14)) + (σ 128 (Int32.toNatClampNeg (σ 123 14)))))); (vp_in (r261.2 123 14) 5) ∧ ((vp_in (((140 : Int32) * (σ 123 14)) + (σ 128 (Int32.toNatClampNeg (σ 123 14)))) 700) ∧ (let s263 := sp s262 131 (Int32.toNatClampNeg (((140 : Int32) * (σ 123 14)) + (σ 128 (Int32.toNatClampNeg (σ 123 14))))) (r261.2 127 (Int32.toNatClampNeg (r261.2 123 14))); (vp_in (r261.2 123 14) 5) ∧ ((vp_in (r261.2 123 14) 5) ∧ (let s264 := sp s263 128 (Int32.toNatClampNeg (r261.2 123 14)) ((r261.2 128 (Int32.toNatClampNeg (r261.2 123 14))) + (1 : Int32)); True))))))))) else ((vp_in (((140 : Int32) * (σ 123 14)) + (σ 128 (Int32.toNatClampNeg (σ 123 14)))) 700) ∧ ((vp_in (((140 : Int32) * (σ 123 14)) + (σ 128 (Int32.toNatClampNeg (σ 123 14)))) 700) ∧ (let s258 := sp s257 130 (Int32.toNatClampNeg (((140 : Int32) * (σ 123 14)) + (σ 128 (Int32.toNatClampNeg (σ 123 14))))) (s257 129 (Int32.toNatClampNeg (((140 : Int32) * (σ 123 14)) + (σ 128 (Int32.toNatClampNeg (σ 123 14)))))); (vp_in (s257 123 14) 5) ∧ ((vp_in (((140 : Int32) * (σ 123 14)) + (σ 128 (Int32.toNatClampNeg (σ 123 14)))) 700) ∧ (let s259 := sp s258 131 (Int32.toNatClampNeg (((140 : Int32) * (σ 123 14)) + (σ 128 (Int32.toNatClampNeg (σ 123 14))))) (s257 127 (Int32.toNatClampNeg (s257 123 14))); (vp_in (s257 123 14) 5) ∧ ((vp_in (s257 123 14) 5) ∧ (let s260 := sp s259 128 (Int32.toNatClampNeg (s257 123 14)) ((s257 128 (Int32.toNatClampNeg (s257 123 14))) + (1 : Int32)); True))))))))))))))) else True))) else (let s146 := sp s145 123 3 (((r144.2 123 3) + (1 : Int32)) + (1 : Int32)); if (r144.2 123 4) = (-1 : Int32) then ((vp_in (r144.2 123 14) 5) ∧ ((vp_in (((140 : Int32) * (σ 123 14)) + (σ 128 (Int32.toNatClampNeg (σ 123 14)))) 700) ∧ (let s147 := sp s146 129 (Int32.toNatClampNeg (((140 : Int32) * (σ 123 14)) + (σ 128 (Int32.toNatClampNeg (σ 123 14))))) (r144.2 127 (Int32.toNatClampNeg (r144.2 123 14))); (o12_look s147) ∧ (let r148 := (f12_look s147); if r148.1 = (33 : Int32) then ((o12_conditionR r148.2) ∧ (let s149 := (f12_conditionR r148.2); (vp_in (((140 : Int32) * (σ 123 14)) + (σ 128 (Int32.toNatClampNeg (σ 123 14)))) 700) ∧ ((vp_in (((140 : Int32) * (σ 123 14)) + (σ 128 (Int32.toNatClampNeg (σ 123 14)))) 700) ∧ (let s150 := sp s149 130 (Int32.toNatClampNeg (((140 : Int32) * (σ 123 14)) + (σ 128 (Int32.toNatClampNeg (σ 123 14))))) (s149 129 (Int32.toNatClampNeg (((140 : Int32) * (σ 123 14)) + (σ 128 (Int32.toNatClampNeg (σ 123 14)))))); if (s149 123 4) = (-1 : Int32) then ((o12_look s150) ∧ (let r153 := (f12_look s150); if r153.1 = (63 : Int32) then (let s154 := sp r153.2 123 3 ((r153.2 123 3) + (1 : Int32)); (vp_in (r153.2 123 14) 5) ∧ ((vp_in (((140 : Int32) * (σ 123 14)) + (σ 128 (Int32.toNatClampNeg (σ 123 14)))) 700) ∧ (let s155 := sp s154 130 (Int32.toNatClampNeg (((140 : Int32) * (σ 123 14)) + (σ 128 (Int32.toNatClampNeg (σ 123 14))))) (r153.2 127 (Int32.toNatClampNeg (r153.2 123 14))); (o12_sumR s155) ∧ (let s156 := (f12_sumR s155); (vp_in (s156 123 14) 5) ∧ ((vp_in (((140 : Int32) * (σ 123 14)) + (σ 128 (Int32.toNatClampNeg (σ 123 14)))) 700) ∧ (let s157 := sp s156 131 (Int32.toNatClampNeg (((140 : Int32) * (σ 123 14)) + (σ 128 (Int32.toNatClampNeg (σ 123 14))))) (s156 127 (Int32.toNatClampNeg (s156 123 14))); (vp_in (s156 123 14) 5) ∧ ((vp_in (s156 123 14) 5) ∧ (let s158 := sp s157 128 (Int32.toNatClampNeg (s156 123 14)) ((s156 128 (Int32.toNatClampNeg (s156 123 14))) + (1 : Int32)); True)))))))) else (let s159 := (f12_bad r153.2); True))) else ((vp_in (s149 123 14) 5) ∧ ((vp_in (((140 : Int32) * (σ 123 14)) + (σ 128 (Int32.toNatClampNeg (σ 123 14)))) 700) ∧ (let s151 := sp s150 131 (Int32.toNatClampNeg (((140 : Int32) * (σ 123 14)) + (σ 128 (Int32.toNatClampNeg (σ 123 14))))) (s149 127 (Int32.toNatClampNeg (s149 123 14))); (vp_in (s149 123 14) 5) ∧ ((vp_in (s149 123 14) 5) ∧ (let s152 := sp s151 128 (Int32.toNatClampNeg (s149 123 14)) ((s149 128 (Int32.toNatClampNeg (s149 123 14))) + (1 : Int32)); True))))))))) else ((o12_look r148.2) ∧ (let r160 := (f12_look r148.2); if r160.1 = (40 : Int32) then ((o12_conditionR r160.2) ∧ (let s182 := (f12_conditionR r160.2); (vp_in (((140 : Int32) * (σ 123 14)) + (σ 128 (Int32.toNatClampNeg (σ 123 14)))) 700) ∧ ((vp_in (((140 : Int32) * (σ 123 14)) + (σ 128 (Int32.toNatClampNeg (σ 123 14)))) 700) ∧ (let s183 := sp s182 130 (Int32.toNatClampNeg (((140 : Int32) * (σ 123 14)) + (σ 128 (Int32.toNatClampNeg (σ 123 14))))) (s182 129 (Int32.toNatClampNeg (((140 : Int32) * (σ 123 14)) + (σ 128 (Int32.toNatClampNeg (σ 123 14)))))); if (s182 123 4) = (-1 : Int32) then ((o12_look s183) ∧ (let r186 := (f12_look s183); if r186.1 = (63 : Int32) then (let s187 := sp r186.2 123 3 ((r186.2 123 3) + (1 : Int32)); (vp_in (r186.2 123 14) 5) ∧ ((vp_in (((140 : Int32) * (σ 123 14)) + (σ 128 (Int32.toNatClampNeg (σ 123 14)))) 700) ∧ (let s188 := sp s187 130 (Int32.toNatClampNeg (((140 : Int32) * (σ 123 14)) + (σ 128 (Int32.toNatClampNeg (σ 123 14))))) (r186.2 127 (Int32.toNatClampNeg (r186.2 123 14))); (o12_sumR s188) ∧ (let s189 := (f12_sumR s188); (vp_in (s189 123 14) 5) ∧ ((vp_in (((140 : Int32) * (σ 123 14)) + (σ 128 (Int32.toNatClampNeg (σ 123 14)))) 700) ∧ (let s190 := sp s189 131 (Int32.toNatClampNeg (((140 : Int32) * (σ 123 14)) + (σ 128 (Int32.toNatClampNeg (σ 123 14))))) (s189 127 (Int32.toNatClampNeg (s189 123 14))); (vp_in (s189 123 14) 5) ∧ ((vp_in (s189 123 14) 5) ∧ (let s191 := sp s190 128 (Int32.toNatClampNeg (s189 123 14)) ((s189 128 (Int32.toNatClampNeg (s189 123 14))) + (1 : Int32)); True)))))))) else (let s192 := (f12_bad r186.2); True))) else ((vp_in (s182 123 14) 5) ∧ ((vp_in (((140 : Int32) * (σ 123 14)) + (σ 128 (Int32.toNatClampNeg (σ 123 14)))) 700) ∧ (let s184 := sp s183 131 (Int32.toNatClampNeg (((140 : Int32) * (σ 123 14)) + (σ 128 (Int32.toNatClampNeg (σ 123 14))))) (s182 127 (Int32.toNatClampNeg (s182 123 14))); (vp_in (s182 123 14) 5) ∧ ((vp_in (s182 123 14) 5) ∧ (let s185 := sp s184 128 (Int32.toNatClampNeg (s182 123 14)) ((s182 128 (Int32.toNatClampNeg (s182 123 14))) + (1 : Int32)); True))))))))) else ((o12_sumR r160.2) ∧ (let s161 := (f12_sumR r160.2); if (s161 123 4) = (-1 : Int32) then ((o12_look s161) ∧ (let r165 := (f12_look s161); if (f12_isSign r165.1) = true then ((o12_compare r165.2) ∧ (let s169 := (f12_compare r165.2); (o12_goOnAndR s169) ∧ (let s170 := (f12_goOnAndR s169); (o12_goOnOrR s170) ∧ (let s171 := (f12_goOnOrR s170); (vp_in (((140 : Int32) * (σ 123 14)) + (σ 128 (Int32.toNatClampNeg (σ 123 14)))) 700) ∧ ((vp_in (((140 : Int32) * (σ 123 14)) + (σ 128 (Int32.toNatClampNeg (σ 123 14)))) 700) ∧ (let s172 := sp s171 130 (Int32.toNatClampNeg (((140 : Int32) * (σ 123 14)) + (σ 128 (Int32.toNatClampNeg (σ 123 14))))) (s171 129 (Int32.toNatClampNeg (((140 : Int32) * (σ 123 14)) + (σ 128 (Int32.toNatClampNeg (σ 123 14)))))); if (s171 123 4) = (-1 : Int32) then ((o12_look s172) ∧ (let r175 := (f12_look s172); if r175.1 = (63 : Int32) then (let s176 := sp r175.2 123 3 ((r175.2 123 3) + (1 : Int32)); (vp_in (r175.2 123 14) 5) ∧ ((vp_in (((140 : Int32) * (σ 123 14)) + (σ 128 (Int32.toNatClampNeg (σ 123 14)))) 700) ∧ (let s177 := sp s176 130 (Int32.toNatClampNeg (((140 : Int32) * (σ 123 14)) + (σ 128 (Int32.toNatClampNeg (σ 123 14))))) (r175.2 127 (Int32.toNatClampNeg (r175.2 123 14))); (o12_sumR s177) ∧ (let s178 := (f12_sumR s177); (vp_in (s178 123 14) 5) ∧ ((vp_in (((140 : Int32) * (σ 123 14)) + (σ 128 (Int32.toNatClampNeg (σ 123 14)))) 700) ∧ (let s179 := sp s178 131 (Int32.toNatClampNeg (((140 : Int32) * (σ 123 14)) + (σ 128 (Int32.toNatClampNeg (σ 123 14))))) (s178 127 (Int32.toNatClampNeg (s178 123 14))); (vp_in (s178 123 14) 5) ∧ ((vp_in (s178 123 14) 5) ∧ (let s180 := sp s179 128 (Int32.toNatClampNeg (s178 123 14)) ((s178 128 (Int32.toNatClampNeg (s178 123 14))) + (1 : Int32)); True)))))))) else (let s181 := (f12_bad r175.2); True))) else ((vp_in (s171 123 14) 5) ∧ ((vp_in (((140 : Int32) * (σ 123 14)) + (σ 128 (Int32.toNatClampNeg (σ 123 14)))) 700) ∧ (let s173 := sp s172 131 (Int32.toNatClampNeg (((140 : Int32) * (σ 123 14)) + (σ 128 (Int32.toNatClampNeg (σ 123 14))))) (s171 127 (Int32.toNatClampNeg (s171 123 14))); (vp_in (s171 123 14) 5) ∧ ((vp_in (s171 123 14) 5) ∧ (let s174 := sp s173 128 (Int32.toNatClampNeg (s171 123 14)) ((s171 128 (Int32.toNatClampNeg (s171 123 14))) + (1 : Int32)); True))))))))))) else ((vp_in (((140 : Int32) * (σ 123 14)) + (σ 128 (Int32.toNatClampNeg (σ 123 14)))) 700) ∧ ((vp_in (((140 : Int32) * (σ 123 14)) + (σ 128 (Int32.toNatClampNeg (σ 123 14)))) 700) ∧ (let s166 := sp r165.2 130 (Int32.toNatClampNeg (((140 : Int32) * (σ 123 14)) + (σ 128 (Int32.toNatClampNeg (σ 123 14))))) (r165.2 129 (Int32.toNatClampNeg (((140 : Int32) * (σ 123 14)) + (σ 128 (Int32.toNatClampNeg (σ 123 14)))))); (vp_in (r165.2 123 14) 5) ∧ ((vp_in (((140 : Int32) * (σ 123 14)) + (σ 128 (Int32.toNatClampNeg (σ 123 14)))) 700) ∧ (let s167 := sp s166 131 (Int32.toNatClampNeg (((140 : Int32) * (σ 123 14)) + (σ 128 (Int32.toNatClampNeg (σ 123 14))))) (r165.2 127 (Int32.toNatClampNeg (r165.2 123 14))); (vp_in (r165.2 123 14) 5) ∧ ((vp_in (r165.2 123 14) 5) ∧ (let s168 := sp s167 128 (Int32.toNatClampNeg (r165.2 123 14)) ((r165.2 128 (Int32.toNatClampNeg (r165.2 123 14))) + (1 : Int32)); True))))))))) else ((vp_in (((140 : Int32) * (σ 123 14)) + (σ 128 (Int32.toNatClampNeg (σ 123 14)))) 700) ∧ ((vp_in (((140 : Int32) * (σ 123 14)) + (σ 128 (Int32.toNatClampNeg (σ 123 14)))) 700) ∧ (let s162 := sp s161 130 (Int32.toNatClampNeg (((140 : Int32) * (σ 123 14)) + (σ 128 (Int32.toNatClampNeg (σ 123 14))))) (s161 129 (Int32.toNatClampNeg (((140 : Int32) * (σ 123 14)) + (σ 128 (Int32.toNatClampNeg (σ 123 14)))))); (vp_in (s161 123 14) 5) ∧ ((vp_in (((140 : Int32) * (σ 123 14)) + (σ 128 (Int32.toNatClampNeg (σ 123 14)))) 700) ∧ (let s163 := sp s162 131 (Int32.toNatClampNeg (((140 : Int32) * (σ 123 14)) + (σ 128 (Int32.toNatClampNeg (σ 123 14))))) (s161 127 (Int32.toNatClampNeg (s161 123 14))); (vp_in (s161 123 14) 5) ∧ ((vp_in (s161 123 14) 5) ∧ (let s164 := sp s163 128 (Int32.toNatClampNeg (s161 123 14)) ((s161 128 (Int32.toNatClampNeg (s161 123 14))) + (1 : Int32)); True))))))))))))))) else True)) else (let s289 := (f12_bad r144.2); let s290 := sp s289 123 3 ((s289 123 3) + (1 : Int32)); if (s289 123 4) = (-1 : Int32) then ((o12_look s290) ∧ (let r338 := (f12_look s290); if r338.1 = (58 : Int32) then (let s339 := sp r338.2 123 3 ((r338.2 123 3) + (1 : Int32)); if (r338.2 123 4) = (-1 : Int32) then ((vp_in (r338.2 123 14) 5) ∧ ((vp_in (((140 : Int32) * (σ 123 14)) + (σ 128 (Int32.toNatClampNeg (σ 123 14)))) 700) ∧ (let s340 := sp s339 129 (Int32.toNatClampNeg (((140 : Int32) * (σ 123 14)) + (σ 128 (Int32.toNatClampNeg (σ 123 14))))) (r338.2 127 (Int32.toNatClampNeg (r338.2 123 14))); (o12_look s340) ∧ (let r341 := (f12_look s340); if r341.1 = (33 : Int32) then ((o12_conditionR r341.2) ∧ (let s342 := (f12_conditionR r341.2); (vp_in (((140 : Int32) * (σ 123 14)) + (σ 128 (Int32.toNatClampNeg (σ 123 14)))) 700) ∧ ((vp_in (((140 : Int32) * (σ 123 14)) + (σ 128 (Int32.toNatClampNeg (σ 123 14)))) 700) ∧ (let s343 := sp s342 130 (Int32.toNatClampNeg (((140 : Int32) * (σ 123 14)) + (σ 128 (Int32.toNatClampNeg (σ 123 14))))) (s342 129 (Int32.toNatClampNeg (((140 : Int32) * (σ 123 14)) + (σ 128 (Int32.toNatClampNeg (σ 123 14)))))); if (s342 123 4) = (-1 : Int32) then ((o12_look s343) ∧ (let r346 := (f12_look s343); if r346.1 = (63 : Int32) then (let s347 := sp r346.2 123 3 ((r346.2 123 3) + (1 : Int32)); (vp_in (r346.2 123 14) 5) ∧ ((vp_in (((140 : Int32) * (σ 123 14)) + (σ 128 (Int32.toNatClampNeg (σ 123 14)))) 700) ∧ (let s348 := sp s347 130 (Int32.toNatClampNeg (((140 : Int32) * (σ 123 14)) + (σ 128 (Int32.toNatClampNeg (σ 123 14))))) (r346.2 127 (Int32.toNatClampNeg (r346.2 123 14))); (o12_sumR s348) ∧ (let s349 := (f12_sumR s348); (vp_in (s349 123 14) 5) ∧ ((vp_in (((140 : Int32) * (σ 123 14)) + (σ 128 (Int32.toNatClampNeg (σ 123 14)))) 700) ∧ (let s350 := sp s349 131 (Int32.toNatClampNeg (((140 : Int32) * (σ 123 14)) + (σ 128 (Int32.toNatClampNeg (σ 123 14))))) (s349 127 (Int32.toNatClampNeg (s349 123 14))); (vp_in (s349 123 14) 5) ∧ ((vp_in (s349 123 14) 5) ∧ (let s351 := sp s350 128 (Int32.toNatClampNeg (s349 123 14)) ((s349 128 (Int32.toNatClampNeg (s349 123 14))) + (1 : Int32)); True)))))))) else (let s352 := (f12_bad r346.2); True))) else ((vp_in (s342 123 14) 5) ∧ ((vp_in (((140 : Int32) * (σ 123 14)) + (σ 128 (Int32.toNatClampNeg (σ 123 14)))) 700) ∧ (let s344 := sp s343 131 (Int32.toNatClampNeg (((140 : Int32) * (σ 123 14)) + (σ 128 (Int32.toNatClampNeg (σ 123 14))))) (s342 127 (Int32.toNatClampNeg (s342 123 14))); (vp_in (s342 123 14) 5) ∧ ((vp_in (s342 123 14) 5) ∧ (let s345 := sp s344 128 (Int32.toNatClampNeg (s342 123 14)) ((s342 128 (Int32.toNatClampNeg (s342 123 14))) + (1 : Int32)); True))))))))) else ((o12_look r341.2) ∧ (let r353 := (f12_look r341.2); if r353.1 = (40 : Int32) then ((o12_conditionR r353.2) ∧ (let s375 := (f12_conditionR r353.2); (vp_in (((140 : Int32) * (σ 123 14)) + (σ 128 (Int32.toNatClampNeg (σ 123 14)))) 700) ∧ ((vp_in (((140 : Int32) * (σ 123 14)) + (σ 128 (Int32.toNatClampNeg (σ 123 14)))) 700) ∧ (let s376 := sp s375 130 (Int32.toNatClampNeg (((140 : Int32) * (σ 123 14)) + (σ 128 (Int32.toNatClampNeg (σ 123 14))))) (s375 129 (Int32.toNatClampNeg (((140 : Int32) * (σ 123 14)) + (σ 128 (Int32.toNatClampNeg (σ 123 14)))))); if (s375 123 4) = (-1 : Int32) then ((o12_look s376) ∧ (let r379 := (f12_look s376); if r379.1 = (63 : Int32) then (let s380 := sp r379.2 123 3 ((r379.2 123 3) + (1 : Int32)); (vp_in (r379.2 123 14) 5) ∧ ((vp_in (((140 : Int32) * (σ 123 14)) + (σ 128 (Int32.toNatClampNeg (σ 123 14)))) 700) ∧ (let s381 := sp s380 130 (Int32.toNatClampNeg (((140 : Int32) * (σ 123 14)) + (σ 128 (Int32.toNatClampNeg (σ 123 14))))) (r379.2 127 (Int32.toNatClampNeg (r379.2 123 14))); (o12_sumR s381) ∧ (let s382 := (f12_sumR s381); (vp_in (s382 123 14) 5) ∧ ((vp_in (((140 : Int32) * (σ 123 14)) + (σ 128 (Int32.toNatClampNeg (σ 123 14)))) 700) ∧ (let s383 := sp s382 131 (Int32.toNatClampNeg (((140 : Int32) * (σ 123 14)) + (σ 128 (Int32.toNatClampNeg (σ 123 14))))) (s382 127 (Int32.toNatClampNeg (s382 123 14))); (vp_in (s382 123 14) 5) ∧ ((vp_in (s382 123 14) 5) ∧ (let s384 := sp s383 128 (Int32.toNatClampNeg (s382 123 14)) ((s382 128 (Int32.toNatClampNeg (s382 123 14))) + (1 : Int32)); True)))))))) else (let s385 := (f12_bad r379.2); True))) else ((vp_in (s375 123 14) 5) ∧ ((vp_in (((140 : Int32) * (σ 123 14)) + (σ 128 (Int32.toNatClampNeg (σ 123 14)))) 700) ∧ (let s377 := sp s376 131 (Int32.toNatClampNeg (((140 : Int32) * (σ 123 14)) + (σ 128 (Int32.toNatClampNeg (σ 123 14))))) (s375 127 (Int32.toNatClampNeg (s375 123 14))); (vp_in (s375 123 14) 5) ∧ ((vp_in (s375 123 14) 5) ∧ (let s378 := sp s377 128 (Int32.toNatClampNeg (s375 123 14)) ((s375 128 (Int32.toNatClampNeg (s375 123 14))) + (1 : Int32)); True))))))))) else ((o12_sumR r353.2) ∧ (let s354 := (f12_sumR r353.2); if (s354 123 4) = (-1 : Int32) then ((o12_look s354) ∧ (let r358 := (f12_look s354); if (f12_isSign r358.1) = true then ((o12_compare r358.2) ∧ (let s362 := (f12_compare r358.2); (o12_goOnAndR s362) ∧ (let s363 := (f12_goOnAndR s362); (o12_goOnOrR s363) ∧ (let s364 := (f12_goOnOrR s363); (vp_in (((140 : Int32) * (σ 123 14)) + (σ 128 (Int32.toNatClampNeg (σ 123 14)))) 700) ∧ ((vp_in (((140 : Int32) * (σ 123 14)) + (σ 128 (Int32.toNatClampNeg (σ 123 14)))) 700) ∧ (let s365 := sp s364 130 (Int32.toNatClampNeg (((140 : Int32) * (σ 123 14)) + (σ 128 (Int32.toNatClampNeg (σ 123 14))))) (s364 129 (Int32.toNatClampNeg (((140 : Int32) * (σ 123 14)) + (σ 128 (Int32.toNatClampNeg (σ 123 14)))))); if (s364 123 4) = (-1 : Int32) then ((o12_look s365) ∧ (let r368 := (f12_look s365); if r368.1 = (63 : Int32) then (let s369 := sp r368.2 123 3 ((r368.2 123 3) + (1 : Int32)); (vp_in (r368.2 123 14) 5) ∧ ((vp_in (((140 : Int32) * (σ 123 14)) + (σ 128 (Int32.toNatClampNeg (σ 123 14)))) 700) ∧ (let s370 := sp s369 130 (Int32.toNatClampNeg (((140 : Int32) * (σ 123 14)) + (σ 128 (Int32.toNatClampNeg (σ 123 14))))) (r368.2 127 (Int32.toNatClampNeg (r368.2 123 14))); (o12_sumR s370) ∧ (let s371 := (f12_sumR s370); (vp_in (s371 123 14) 5) ∧ ((vp_in (((140 : Int32) * (σ 123 14)) + (σ 128 (Int32.toNatClampNeg (σ 123 14)))) 700) ∧ (let s372 := sp s371 131 (Int32.toNatClampNeg (((140 : Int32) * (σ 123 14)) + (σ 128 (Int32.toNatClampNeg (σ 123 14))))) (s371 127 (Int32.toNatClampNeg (s371 123 14))); (vp_in (s371 123 14) 5) ∧ ((vp_in (s371 123 14) 5) ∧ (let s373 := sp s372 128 (Int32.toNatClampNeg (s371 123 14)) ((s371 128 (Int32.toNatClampNeg (s371 123 14))) + (1 : Int32)); True)))))))) else (let s374 := (f12_bad r368.2); True))) else ((vp_in (s364 123 14) 5) ∧ ((vp_in (((140 : Int32) * (σ 123 14)) + (σ 128 (Int32.toNatClampNeg (σ 123 14)))) 700) ∧ (let s366 := sp s365 131 (Int32.toNatClampNeg (((140 : Int32) * (σ 123 14)) + (σ 128 (Int32.toNatClampNeg (σ 123 14))))) (s364 127 (Int32.toNatClampNeg (s364 123 14))); (vp_in (s364 123 14) 5) ∧ ((vp_in (s364 123 14) 5) ∧ (let s367 := sp s366 128 (Int32.toNatClampNeg (s364 123 14)) ((s364 128 (Int32.toNatClampNeg (s364 123 14))) + (1 : Int32)); True))))))))))) else ((vp_in (((140 : Int32) * (σ 123 14)) + (σ 128 (Int32.toNatClampNeg (σ 123 14)))) 700) ∧ ((vp_in (((140 : Int32) * (σ 123 14)) + (σ 128 (Int32.toNatClampNeg (σ 123 14)))) 700) ∧ (let s359 := sp r358.2 130 (Int32.toNatClampNeg (((140 : Int32) * (σ 123 14)) + (σ 128 (Int32.toNatClampNeg (σ 123 14))))) (r358.2 129 (Int32.toNatClampNeg (((140 : Int32) * (σ 123 14)) + (σ 128 (Int32.toNatClampNeg (σ 123 14)))))); (vp_in (r358.2 123 14) 5) ∧ ((vp_in (((140 : Int32) * (σ 123 14)) + (σ 128 (Int32.toNatClampNeg (σ 123 14)))) 700) ∧ (let s360 := sp s359 131 (Int32.toNatClampNeg (((140 : Int32) * (σ 123 14)) + (σ 128 (Int32.toNatClampNeg (σ 123 14))))) (r358.2 127 (Int32.toNatClampNeg (r358.2 123 14))); (vp_in (r358.2 123 14) 5) ∧ ((vp_in (r358.2 123 14) 5) ∧ (let s361 := sp s360 128 (Int32.toNatClampNeg (r358.2 123 14)) ((r358.2 128 (Int32.toNatClampNeg (r358.2 123 14))) + (1 : Int32)); True))))))))) else ((vp_in (((140 : Int32) * (σ 123 14)) + (σ 128 (Int32.toNatClampNeg (σ 123 14)))) 700) ∧ ((vp_in (((140 : Int32) * (σ 123 14)) + (σ 128 (Int32.toNatClampNeg (σ 123 14)))) 700) ∧ (let s355 := sp s354 130 (Int32.toNatClampNeg (((140 : Int32) * (σ 123 14)) + (σ 128 (Int32.toNatClampNeg (σ 123 14))))) (s354 129 (Int32.toNatClampNeg (((140 : Int32) * (σ 123 14)) + (σ 128 (Int32.toNatClampNeg (σ 123 14)))))); (vp_in (s354 123 14) 5) ∧ ((vp_in (((140 : Int32) * (σ 123 14)) + (σ 128 (Int32.toNatClampNeg (σ 123 14)))) 700) ∧ (let s356 := sp s355 131 (Int32.toNatClampNeg (((140 : Int32) * (σ 123 14)) + (σ 128 (Int32.toNatClampNeg (σ 123 14))))) (s354 127 (Int32.toNatClampNeg (s354 123 14))); (vp_in (s354 123 14) 5) ∧ ((vp_in (s354 123 14) 5) ∧ (let s357 := sp s356 128 (Int32.toNatClampNeg (s354 123 14)) ((s354 128 (Int32.toNatClampNeg (s354 123 14))) + (1 : Int32)); True))))))))))))))) else True) else (let s386 := (f12_bad r338.2); let s387 := sp s386 123 3 ((s386 123 3) + (1 : Int32)); if (s386 123 4) = (-1 : Int32) then ((vp_in (s386 123 14) 5) ∧ ((vp_in (((140 : Int32) * (σ 123 14)) + (σ 128 (Int32.toNatClampNeg (σ 123 14)))) 700) ∧ (let s388 := sp s387 129 (Int32.toNatClampNeg (((140 : Int32) * (σ 123 14)) + (σ 128 (Int32.toNatClampNeg (σ 123 14))))) (s386 127 (Int32.toNatClampNeg (s386 123 14))); (o12_look s388) ∧ (let r389 := (f12_look s388); if r389.1 = (33 : Int32) then ((o12_conditionR r389.2) ∧ (let s390 := (f12_conditionR r389.2); (vp_in (((140 : Int32) * (σ 123 14)) + (σ 128 (Int32.toNatClampNeg (σ 123 14)))) 700) ∧ ((vp_in (((140 : Int32) * (σ 123 14)) + (σ 128 (Int32.toNatClampNeg (σ 123 14)))) 700) ∧ (let s391 := sp s390 130 (Int32.toNatClampNeg (((140 : Int32) * (σ 123 14)) + (σ 128 (Int32.toNatClampNeg (σ 123 14))))) (s390 129 (Int32.toNatClampNeg (((140 : Int32) * (σ 123 14)) + (σ 128 (Int32.toNatClampNeg (σ 123 14)))))); if (s390 123 4) = (-1 : Int32) then ((o12_look s391) ∧ (let r394 := (f12_look s391); if r394.1 = (63 : Int32) then (let s395 := sp r394.2 123 3 ((r394.2 123 3) + (1 : Int32)); (vp_in (r394.2 123 14) 5) ∧ ((vp_in (((140 : Int32) * (σ 123 14)) + (σ 128 (Int32.toNatClampNeg (σ 123 14)))) 700) ∧ (let s396 := sp s395 130 (Int32.toNatClampNeg (((140 : Int32) * (σ 123 14)) + (σ 128 (Int32.toNatClampNeg (σ 123 14))))) (r394.2 127 (Int32.toNatClampNeg (r394.2 123 14))); (o12_sumR s396) ∧ (let s397 := (f12_sumR s396); (vp_in (s397 123 14) 5) ∧ ((vp_in (((140 : Int32) * (σ 123 14)) + (σ 128 (Int32.toNatClampNeg (σ 123 14)))) 700) ∧ (let s398 := sp s397 131 (Int32.toNatClampNeg (((140 : Int32) * (σ 123 14)) + (σ 128 (Int32.toNatClampNeg (σ 123 14))))) (s397 127 (Int32.toNatClampNeg (s397 123 14))); (vp_in (s397 123 14) 5) ∧ ((vp_in (s397 123 14) 5) ∧ (let s399 := sp s398 128 (Int32.toNatClampNeg (s397 123 14)) ((s397 128 (Int32.toNatClampNeg (s397 123 14))) + (1 : Int32)); True)))))))) else (let s400 := (f12_bad r394.2); True))) else ((vp_in (s390 123 14) 5) ∧ ((vp_in (((140 : Int32) * (σ 123 14)) + (σ 128 (Int32.toNatClampNeg (σ 123 14)))) 700) ∧ (let s392 := sp s391 131 (Int32.toNatClampNeg (((140 : Int32) * (σ 123 14)) + (σ 128 (Int32.toNatClampNeg (σ 123 14))))) (s390 127 (Int32.toNatClampNeg (s390 123 14))); (vp_in (s390 123 14) 5) ∧ ((vp_in (s390 123 14) 5) ∧ (let s393 := sp s392 128 (Int32.toNatClampNeg (s390 123 14)) ((s390 128 (Int32.toNatClampNeg (s390 123 14))) + (1 : Int32)); True))))))))) else ((o12_look r389.2) ∧ (let r401 := (f12_look r389.2); if r401.1 = (40 : Int32) then ((o12_conditionR r401.2) ∧ (let s423 := (f12_conditionR r401.2); (vp_in (((140 : Int32) * (σ 123 14)) + (σ 128 (Int32.toNatClampNeg (σ 123 14)))) 700) ∧ ((vp_in (((140 : Int32) * (σ 123 14)) + (σ 128 (Int32.toNatClampNeg (σ 123 14)))) 700) ∧ (let s424 := sp s423 130 (Int32.toNatClampNeg (((140 : Int32) * (σ 123 14)) + (σ 128 (Int32.toNatClampNeg (σ 123 14))))) (s423 129 (Int32.toNatClampNeg (((140 : Int32) * (σ 123 14)) + (σ 128 (Int32.toNatClampNeg (σ 123 14)))))); if (s423 123 4) = (-1 : Int32) then ((o12_look s424) ∧ (let r427 := (f12_look s424); if r427.1 = (63 : Int32) then (let s428 := sp r427.2 123 3 ((r427.2 123 3) + (1 : Int32)); (vp_in (r427.2 123 14) 5) ∧ ((vp_in (((140 : Int32) * (σ 123 14)) + (σ 128 (Int32.toNatClampNeg (σ 123 14)))) 700) ∧ (let s429 := sp s428 130 (Int32.toNatClampNeg (((140 : Int32) * (σ 123 14)) + (σ 128 (Int32.toNatClampNeg (σ 123 14))))) (r427.2 127 (Int32.toNatClampNeg (r427.2 123 14))); (o12_sumR s429) ∧ (let s430 := (f12_sumR s429); (vp_in (s430 123 14) 5) ∧ ((vp_in (((140 : Int32) * (σ 123 14)) + (σ 128 (Int32.toNatClampNeg (σ 123 14)))) 700) ∧ (let s431 := sp s430 131 (Int32.toNatClampNeg (((140 : Int32) * (σ 123 14)) + (σ 128 (Int32.toNatClampNeg (σ 123 14))))) (s430 127 (Int32.toNatClampNeg (s430 123 14))); (vp_in (s430 123 14) 5) ∧ ((vp_in (s430 123 14) 5) ∧ (let s432 := sp s431 128 (Int32.toNatClampNeg (s430 123 14)) ((s430 128 (Int32.toNatClampNeg (s430 123 14))) + (1 : Int32)); True)))))))) else (let s433 := (f12_bad r427.2); True))) else ((vp_in (s423 123 14) 5) ∧ ((vp_in (((140 : Int32) * (σ 123 14)) + (σ 128 (Int32.toNatClampNeg (σ 123 14)))) 700) ∧ (let s425 := sp s424 131 (Int32.toNatClampNeg (((140 : Int32) * (σ 123 14)) + (σ 128 (Int32.toNatClampNeg (σ 123 14))))) (s423 127 (Int32.toNatClampNeg (s423 123 14))); (vp_in (s423 123 14) 5) ∧ ((vp_in (s423 123 14) 5) ∧ (let s426 := sp s425 128 (Int32.toNatClampNeg (s423 123 14)) ((s423 128 (Int32.toNatClampNeg (s423 123 14))) + (1 : Int32)); True))))))))) else ((o12_sumR r401.2) ∧ (let s402 := (f12_sumR r401.2); if (s402 123 4) = (-1 : Int32) then ((o12_look s402) ∧ (let r406 := (f12_look s402); if (f12_isSign r406.1) = true then ((o12_compare r406.2) ∧ (let s410 := (f12_compare r406.2); (o12_goOnAndR s410) ∧ (let s411 := (f12_goOnAndR s410); (o12_goOnOrR s411) ∧ (let s412 := (f12_goOnOrR s411); (vp_in (((140 : Int32) * (σ 123 14)) + (σ 128 (Int32.toNatClampNeg (σ 123 14)))) 700) ∧ ((vp_in (((140 : Int32) * (σ 123 14)) + (σ 128 (Int32.toNatClampNeg (σ 123 14)))) 700) ∧ (let s413 := sp s412 130 (Int32.toNatClampNeg (((140 : Int32) * (σ 123 14)) + (σ 128 (Int32.toNatClampNeg (σ 123 14))))) (s412 129 (Int32.toNatClampNeg (((140 : Int32) * (σ 123 14)) + (σ 128 (Int32.toNatClampNeg (σ 123 14)))))); if (s412 123 4) = (-1 : Int32) then ((o12_look s413) ∧ (let r416 := (f12_look s413); if r416.1 = (63 : Int32) then (let s417 := sp r416.2 123 3 ((r416.2 123 3) + (1 : Int32)); (vp_in (r416.2 123 14) 5) ∧ ((vp_in (((140 : Int32) * (σ 123 14)) + (σ 128 (Int32.toNatClampNeg (σ 123 14)))) 700) ∧ (let s418 := sp s417 130 (Int32.toNatClampNeg (((140 : Int32) * (σ 123 14)) + (σ 128 (Int32.toNatClampNeg (σ 123 14))))) (r416.2 127 (Int32.toNatClampNeg (r416.2 123 14))); (o12_sumR s418) ∧ (let s419 := (f12_sumR s418); (vp_in (s419 123 14) 5) ∧ ((vp_in (((140 : Int32) * (σ 123 14)) + (σ 128 (Int32.toNatClampNeg (σ 123 14)))) 700) ∧ (let s420 := sp s419 131 (Int32.toNatClampNeg (((140 : Int32) * (σ 123 14)) + (σ 128 (Int32.toNatClampNeg (σ 123 14))))) (s419 127 (Int32.toNatClampNeg (s419 123 14))); (vp_in (s419 123 14) 5) ∧ ((vp_in (s419 123 14) 5) ∧ (let s421 := sp s420 128 (Int32.toNatClampNeg (s419 123 14)) ((s419 128 (Int32.toNatClampNeg (s419 123 14))) + (1 : Int32)); True)))))))) else (let s422 := (f12_bad r416.2); True))) else ((vp_in (s412 123 14) 5) ∧ ((vp_in (((140 : Int32) * (σ 123 14)) + (σ 128 (Int32.toNatClampNeg (σ 123 14)))) 700) ∧ (let s414 := sp s413 131 (Int32.toNatClampNeg (((140 : Int32) * (σ 123 14)) + (σ 128 (Int32.toNatClampNeg (σ 123 14))))) (s412 127 (Int32.toNatClampNeg (s412 123 14))); (vp_in (s412 123 14) 5) ∧ ((vp_in (s412 123 14) 5) ∧ (let s415 := sp s414 128 (Int32.toNatClampNeg (s412 123 14)) ((s412 128 (Int32.toNatClampNeg (s412 123 14))) + (1 : Int32)); True))))))))))) else ((vp_in (((140 : Int32) * (σ 123 14)) + (σ 128 (Int32.toNatClampNeg (σ 123 14)))) 700) ∧ ((vp_in (((140 : Int32) * (σ 123 14)) + (σ 128 (Int32.toNatClampNeg (σ 123 14)))) 700) ∧ (let s407 := sp r406.2 130 (Int32.toNatClampNeg (((140 : Int32) * (σ 123 14)) + (σ 128 (Int32.toNatClampNeg (σ 123 14))))) (r406.2 129 (Int32.toNatClampNeg (((140 : Int32) * (σ 123 14)) + (σ 128 (Int32.toNatClampNeg (σ 123 14)))))); (vp_in (r406.2 123 14) 5) ∧ ((vp_in (((140 : Int32) * (σ 123 14)) + (σ 128 (Int32.toNatClampNeg (σ 123 14)))) 700) ∧ (let s408 := sp s407 131 (Int32.toNatClampNeg (((140 : Int32) * (σ 123 14)) + (σ 128 (Int32.toNatClampNeg (σ 123 14))))) (r406.2 127 (Int32.toNatClampNeg (r406.2 123 14))); (vp_in (r406.2 123 14) 5) ∧ ((vp_in (r406.2 123 14) 5) ∧ (let s409 := sp s408 128 (Int32.toNatClampNeg (r406.2 123 14)) ((r406.2 128 (Int32.toNatClampNeg (r406.2 123 14))) + (1 : Int32)); True))))))))) else ((vp_in (((140 : Int32) * (σ 123 14)) + (σ 128 (Int32.toNatClampNeg (σ 123 14)))) 700) ∧ ((vp_in (((140 : Int32) * (σ 123 14)) + (σ 128 (Int32.toNatClampNeg (σ 123 14)))) 700) ∧ (let s403 := sp s402 130 (Int32.toNatClampNeg (((140 : Int32) * (σ 123 14)) + (σ 128 (Int32.toNatClampNeg (σ 123 14))))) (s402 129 (Int32.toNatClampNeg (((140 : Int32) * (σ 123 14)) + (σ 128 (Int32.toNatClampNeg (σ 123 14)))))); (vp_in (s402 123 14) 5) ∧ ((vp_in (((140 : Int32) * (σ 123 14)) + (σ 128 (Int32.toNatClampNeg (σ 123 14)))) 700) ∧ (let s404 := sp s403 131 (Int32.toNatClampNeg (((140 : Int32) * (σ 123 14)) + (σ 128 (Int32.toNatClampNeg (σ 123 14))))) (s402 127 (Int32.toNatClampNeg (s402 123 14))); (vp_in (s402 123 14) 5) ∧ ((vp_in (s402 123 14) 5) ∧ (let s405 := sp s404 128 (Int32.toNatClampNeg (s402 123 14)) ((s402 128 (Int32.toNatClampNeg (s402 123 14))) + (1 : Int32)); True))))))))))))))) else True))) else (let s291 := sp s290 123 3 (((s289 123 3) + (1 : Int32)) + (1 : Int32)); if (s289 123 4) = (-1 : Int32) then ((vp_in (s289 123 14) 5) ∧ ((vp_in (((140 : Int32) * (σ 123 14)) + (σ 128 (Int32.toNatClampNeg (σ 123 14)))) 700) ∧ (let s292 := sp s291 129 (Int32.toNatClampNeg (((140 : Int32) * (σ 123 14)) + (σ 128 (Int32.toNatClampNeg (σ 123 14))))) (s289 127 (Int32.toNatClampNeg (s289 123 14))); (o12_look s292) ∧ (let r293 := (f12_look s292); if r293.1 = (33 : Int32) then ((o12_conditionR r293.2) ∧ (let s294 := (f12_conditionR r293.2); (vp_in (((140 : Int32) * (σ 123 14)) + (σ 128 (Int32.toNatClampNeg (σ 123 14)))) 700) ∧ ((vp_in (((140 : Int32) * (σ 123 14)) + (σ 128 (Int32.toNatClampNeg (σ 123 14)))) 700) ∧ (let s295 := sp s294 130 (Int32.toNatClampNeg (((140 : Int32) * (σ 123 14)) + (σ 128 (Int32.toNatClampNeg (σ 123 14))))) (s294 129 (Int32.toNatClampNeg (((140 : Int32) * (σ 123 14)) + (σ 128 (Int32.toNatClampNeg (σ 123 14)))))); if (s294 123 4) = (-1 : Int32) then ((o12_look s295) ∧ (let r298 := (f12_look s295); if r298.1 = (63 : Int32) then (let s299 := sp r298.2 123 3 ((r298.2 123 3) + (1 : Int32)); (vp_in (r298.2 123 14) 5) ∧ ((vp_in (((140 : Int32) * (σ 123 14)) + (σ 128 (Int32.toNatClampNeg (σ 123 14)))) 700) ∧ (let s300 := sp s299 130 (Int32.toNatClampNeg (((140 : Int32) * (σ 123 14)) + (σ 128 (Int32.toNatClampNeg (σ 123 14))))) (r298.2 127 (Int32.toNatClampNeg (r298.2 123 14))); (o12_sumR s300) ∧ (let s301 := (f12_sumR s300); (vp_in (s301 123 14) 5) ∧ ((vp_in (((140 : Int32) * (σ 123 14)) + (σ 128 (Int32.toNatClampNeg (σ 123 14)))) 700) ∧ (let s302 := sp s301 131 (Int32.toNatClampNeg (((140 : Int32) * (σ 123 14)) + (σ 128 (Int32.toNatClampNeg (σ 123 14))))) (s301 127 (Int32.toNatClampNeg (s301 123 14))); (vp_in (s301 123 14) 5) ∧ ((vp_in (s301 123 14) 5) ∧ (let s303 := sp s302 128 (Int32.toNatClampNeg (s301 123 14)) ((s301 128 (Int32.toNatClampNeg (s301 123 14))) + (1 : Int32)); True)))))))) else (let s304 := (f12_bad r298.2); True))) else ((vp_in (s294 123 14) 5) ∧ ((vp_in (((140 : Int32) * (σ 123 14)) + (σ 128 (Int32.toNatClampNeg (σ 123 14)))) 700) ∧ (let s296 := sp s295 131 (Int32.toNatClampNeg (((140 : Int32) * (σ 123 14)) + (σ 128 (Int32.toNatClampNeg (σ 123 14))))) (s294 127 (Int32.toNatClampNeg (s294 123 14))); (vp_in (s294 123 14) 5) ∧ ((vp_in (s294 123 14) 5) ∧ (let s297 := sp s296 128 (Int32.toNatClampNeg (s294 123 14)) ((s294 128 (Int32.toNatClampNeg (s294 123 14))) + (1 : Int32)); True))))))))) else ((o12_look r293.2) ∧ (let r305 := (f12_look r293.2); if r305.1 = (40 : Int32) then ((o12_conditionR r305.2) ∧ (let s327 := (f12_conditionR r305.2); (vp_in (((140 : Int32) * (σ 123 14)) + (σ 128 (Int32.toNatClampNeg (σ 123 14)))) 700) ∧ ((vp_in (((140 : Int32) * (σ 123 14)) + (σ 128 (Int32.toNatClampNeg (σ 123 14)))) 700) ∧ (let s328 := sp s327 130 (Int32.toNatClampNeg (((140 : Int32) * (σ 123 14)) + (σ 128 (Int32.toNatClampNeg (σ 123 14))))) (s327 129 (Int32.toNatClampNeg (((140 : Int32) * (σ 123 14)) + (σ 128 (Int32.toNatClampNeg (σ 123 14)))))); if (s327 123 4) = (-1 : Int32) then ((o12_look s328) ∧ (let r331 := (f12_look s328); if r331.1 = (63 : Int32) then (let s332 := sp r331.2 123 3 ((r331.2 123 3) + (1 : Int32)); (vp_in (r331.2 123 14) 5) ∧ ((vp_in (((140 : Int32) * (σ 123 14)) + (σ 128 (Int32.toNatClampNeg (σ 123 14)))) 700) ∧ (let s333 := sp s332 130 (Int32.toNatClampNeg (((140 : Int32) * (σ 123 14)) + (σ 128 (Int32.toNatClampNeg (σ 123 14))))) (r331.2 127 (Int32.toNatClampNeg (r331.2 123 14))); (o12_sumR s333) ∧ (let s334 := (f12_sumR s333); (vp_in (s334 123 14) 5) ∧ ((vp_in (((140 : Int32) * (σ 123 14)) + (σ 128 (Int32.toNatClampNeg (σ 123 14)))) 700) ∧ (let s335 := sp s334 131 (Int32.toNatClampNeg (((140 : Int32) * (σ 123 14)) + (σ 128 (Int32.toNatClampNeg (σ 123 14))))) (s334 127 (Int32.toNatClampNeg (s334 123 14))); (vp_in (s334 123 14) 5) ∧ ((vp_in (s334 123 14) 5) ∧ (let s336 := sp s335 128 (Int32.toNatClampNeg (s334 123 14)) ((s334 128 (Int32.toNatClampNeg (s334 123 14))) + (1 : Int32)); True)))))))) else (let s337 := (f12_bad r331.2); True))) else ((vp_in (s327 123 14) 5) ∧ ((vp_in (((140 : Int32) * (σ 123 14)) + (σ 128 (Int32.toNatClampNeg (σ 123 14)))) 700) ∧ (let s329 := sp s328 131 (Int32.toNatClampNeg (((140 : Int32) * (σ 123 14)) + (σ 128 (Int32.toNatClampNeg (σ 123 14))))) (s327 127 (Int32.toNatClampNeg (s327 123 14))); (vp_in (s327 123 14) 5) ∧ ((vp_in (s327 123 14) 5) ∧ (let s330 := sp s329 128 (Int32.toNatClampNeg (s327 123 14)) ((s327 128 (Int32.toNatClampNeg (s327 123 14))) + (1 : Int32)); True))))))))) else ((o12_sumR r305.2) ∧ (let s306 := (f12_sumR r305.2); if (s306 123 4) = (-1 : Int32) then ((o12_look s306) ∧ (let r310 := (f12_look s306); if (f12_isSign r310.1) = true then ((o12_compare r310.2) ∧ (let s314 := (f12_compare r310.2); (o12_goOnAndR s314) ∧ (let s315 := (f12_goOnAndR s314); (o12_goOnOrR s315) ∧ (let s316 := (f12_goOnOrR s315); (vp_in (((140 : Int32) * (σ 123 14)) + (σ 128 (Int32.toNatClampNeg (σ 123 14)))) 700) ∧ ((vp_in (((140 : Int32) * (σ 123 14)) + (σ 128 (Int32.toNatClampNeg (σ 123 14)))) 700) ∧ (let s317 := sp s316 130 (Int32.toNatClampNeg (((140 : Int32) * (σ 123 14)) + (σ 128 (Int32.toNatClampNeg (σ 123 14))))) (s316 129 (Int32.toNatClampNeg (((140 : Int32) * (σ 123 14)) + (σ 128 (Int32.toNatClampNeg (σ 123 14)))))); if (s316 123 4) = (-1 : Int32) then ((o12_look s317) ∧ (let r320 := (f12_look s317); if r320.1 = (63 : Int32) then (let s321 := sp r320.2 123 3 ((r320.2 123 3) + (1 : Int32)); (vp_in (r320.2 123 14) 5) ∧ ((vp_in (((140 : Int32) * (σ 123 14)) + (σ 128 (Int32.toNatClampNeg (σ 123 14)))) 700) ∧ (let s322 := sp s321 130 (Int32.toNatClampNeg (((140 : Int32) * (σ 123 14)) + (σ 128 (Int32.toNatClampNeg (σ 123 14))))) (r320.2 127 (Int32.toNatClampNeg (r320.2 123 14))); (o12_sumR s322) ∧ (let s323 := (f12_sumR s322); (vp_in (s323 123 14) 5) ∧ ((vp_in (((140 : Int32) * (σ 123 14)) + (σ 128 (Int32.toNatClampNeg (σ 123 14)))) 700) ∧ (let s324 := sp s323 131 (Int32.toNatClampNeg (((140 : Int32) * (σ 123 14)) + (σ 128 (Int32.toNatClampNeg (σ 123 14))))) (s323 127 (Int32.toNatClampNeg (s323 123 14))); (vp_in (s323 123 14) 5) ∧ ((vp_in (s323 123 14) 5) ∧ (let s325 := sp s324 128 (Int32.toNatClampNeg (s323 123 14)) ((s323 128 (Int32.toNatClampNeg (s323 123 14))) + (1 : Int32)); True)))))))) else (let s326 := (f12_bad r320.2); True))) else ((vp_in (s316 123 14) 5) ∧ ((vp_in (((140 : Int32) * (σ 123 14)) + (σ 128 (Int32.toNatClampNeg (σ 123 14)))) 700) ∧ (let s318 := sp s317 131 (Int32.toNatClampNeg (((140 : Int32) * (σ 123 14)) + (σ 128 (Int32.toNatClampNeg (σ 123 14))))) (s316 127 (Int32.toNatClampNeg (s316 123 14))); (vp_in (s316 123 14) 5) ∧ ((vp_in (s316 123 14) 5) ∧ (let s319 := sp s318 128 (Int32.toNatClampNeg (s316 123 14)) ((s316 128 (Int32.toNatClampNeg (s316 123 14))) + (1 : Int32)); True))))))))))) else ((vp_in (((140 : Int32) * (σ 123 14)) + (σ 128 (Int32.toNatClampNeg (σ 123 14)))) 700) ∧ ((vp_in (((140 : Int32) * (σ 123 14)) + (σ 128 (Int32.toNatClampNeg (σ 123 14)))) 700) ∧ (let s311 := sp r310.2 130 (Int32.toNatClampNeg (((140 : Int32) * (σ 123 14)) + (σ 128 (Int32.toNatClampNeg (σ 123 14))))) (r310.2 129 (Int32.toNatClampNeg (((140 : Int32) * (σ 123 14)) + (σ 128 (Int32.toNatClampNeg (σ 123 14)))))); (vp_in (r310.2 123 14) 5) ∧ ((vp_in (((140 : Int32) * (σ 123 14)) + (σ 128 (Int32.toNatClampNeg (σ 123 14)))) 700) ∧ (let s312 := sp s311 131 (Int32.toNatClampNeg (((140 : Int32) * (σ 123 14)) + (σ 128 (Int32.toNatClampNeg (σ 123 14))))) (r310.2 127 (Int32.toNatClampNeg (r310.2 123 14))); (vp_in (r310.2 123 14) 5) ∧ ((vp_in (r310.2 123 14) 5) ∧ (let s313 := sp s312 128 (Int32.toNatClampNeg (r310.2 123 14)) ((r310.2 128 (Int32.toNatClampNeg (r310.2 123 14))) + (1 : Int32)); True))))))))) else ((vp_in (((140 : Int32) * (σ 123 14)) + (σ 128 (Int32.toNatClampNeg (σ 123 14)))) 700) ∧ ((vp_in (((140 : Int32) * (σ 123 14)) + (σ 128 (Int32.toNatClampNeg (σ 123 14)))) 700) ∧ (let s307 := sp s306 130 (Int32.toNatClampNeg (((140 : Int32) * (σ 123 14)) + (σ 128 (Int32.toNatClampNeg (σ 123 14))))) (s306 129 (Int32.toNatClampNeg (((140 : Int32) * (σ 123 14)) + (σ 128 (Int32.toNatClampNeg (σ 123 14)))))); (vp_in (s306 123 14) 5) ∧ ((vp_in (((140 : Int32) * (σ 123 14)) + (σ 128 (Int32.toNatClampNeg (σ 123 14)))) 700) ∧ (let s308 := sp s307 131 (Int32.toNatClampNeg (((140 : Int32) * (σ 123 14)) + (σ 128 (Int32.toNatClampNeg (σ 123 14))))) (s306 127 (Int32.toNatClampNeg (s306 123 14))); (vp_in (s306 123 14) 5) ∧ ((vp_in (s306 123 14) 5) ∧ (let s309 := sp s308 128 (Int32.toNatClampNeg (s306 123 14)) ((s306 128 (Int32.toNatClampNeg (s306 123 14))) + (1 : Int32)); True))))))))))))))) else True)))) else (let s0 := sp σ 123 3 ((σ 123 3) + (1 : Int32)); if (σ 123 4) = (-1 : Int32) then ((o12_look s0) ∧ (let r48 := (f12_look s0); if r48.1 = (58 : Int32) then (let s49 := sp r48.2 123 3 ((r48.2 123 3) + (1 : Int32)); if (r48.2 123 4) = (-1 : Int32) then ((vp_in (r48.2 123 14) 5) ∧ ((vp_in (((140 : Int32) * (σ 123 14)) + (σ 128 (Int32.toNatClampNeg (σ 123 14)))) 700) ∧ (let s50 := sp s49 129 (Int32.toNatClampNeg (((140 : Int32) * (σ 123 14)) + (σ 128 (Int32.toNatClampNeg (σ 123 14))))) (r48.2 127 (Int32.toNatClampNeg (r48.2 123 14))); (o12_look s50) ∧ (let r51 := (f12_look s50); if r51.1 = (33 : Int32) then ((o12_conditionR r51.2) ∧ (let s52 := (f12_conditionR r51.2); (vp_in (((140 : Int32) * (σ 123 14)) + (σ 128 (Int32.toNatClampNeg (σ 123 14)))) 700) ∧ ((vp_in (((140 : Int32) * (σ 123 14)) + (σ 128 (Int32.toNatClampNeg (σ 123 14)))) 700) ∧ (let s53 := sp s52 130 (Int32.toNatClampNeg (((140 : Int32) * (σ 123 14)) + (σ 128 (Int32.toNatClampNeg (σ 123 14))))) (s52 129 (Int32.toNatClampNeg (((140 : Int32) * (σ 123 14)) + (σ 128 (Int32.toNatClampNeg (σ 123 14)))))); if (s52 123 4) = (-1 : Int32) then ((o12_look s53) ∧ (let r56 := (f12_look s53); if r56.1 = (63 : Int32) then (let s57 := sp r56.2 123 3 ((r56.2 123 3) + (1 : Int32)); (vp_in (r56.2 123 14) 5) ∧ ((vp_in (((140 : Int32) * (σ 123 14)) + (σ 128 (Int32.toNatClampNeg (σ 123 14)))) 700) ∧ (let s58 := sp s57 130 (Int32.toNatClampNeg (((140 : Int32) * (σ 123 14)) + (σ 128 (Int32.toNatClampNeg (σ 123 14))))) (r56.2 127 (Int32.toNatClampNeg (r56.2 123 14))); (o12_sumR s58) ∧ (let s59 := (f12_sumR s58); (vp_in (s59 123 14) 5) ∧ ((vp_in (((140 : Int32) * (σ 123 14)) + (σ 128 (Int32.toNatClampNeg (σ 123 14)))) 700) ∧ (let s60 := sp s59 131 (Int32.toNatClampNeg (((140 : Int32) * (σ 123 14)) + (σ 128 (Int32.toNatClampNeg (σ 123 14))))) (s59 127 (Int32.toNatClampNeg (s59 123 14))); (vp_in (s59 123 14) 5) ∧ ((vp_in (s59 123 14) 5) ∧ (let s61 := sp s60 128 (Int32.toNatClampNeg (s59 123 14)) ((s59 128 (Int32.toNatClampNeg (s59 123 14))) + (1 : Int32)); True)))))))) else (let s62 := (f12_bad r56.2); True))) else ((vp_in (s52 123 14) 5) ∧ ((vp_in (((140 : Int32) * (σ 123 14)) + (σ 128 (Int32.toNatClampNeg (σ 123 14)))) 700) ∧ (let s54 := sp s53 131 (Int32.toNatClampNeg (((140 : Int32) * (σ 123 14)) + (σ 128 (Int32.toNatClampNeg (σ 123 14))))) (s52 127 (Int32.toNatClampNeg (s52 123 14))); (vp_in (s52 123 14) 5) ∧ ((vp_in (s52 123 14) 5) ∧ (let s55 := sp s54 128 (Int32.toNatClampNeg (s52 123 14)) ((s52 128 (Int32.toNatClampNeg (s52 123 14))) + (1 : Int32)); True))))))))) else ((o12_look r51.2) ∧ (let r63 := (f12_look r51.2); if r63.1 = (40 : Int32) then ((o12_conditionR r63.2) ∧ (let s85 := (f12_conditionR r63.2); (vp_in (((140 : Int32) * (σ 123 14)) + (σ 128 (Int32.toNatClampNeg (σ 123 14)))) 700) ∧ ((vp_in (((140 : Int32) * (σ 123 14)) + (σ 128 (Int32.toNatClampNeg (σ 123 14)))) 700) ∧ (let s86 := sp s85 130 (Int32.toNatClampNeg (((140 : Int32) * (σ 123 14)) + (σ 128 (Int32.toNatClampNeg (σ 123 14))))) (s85 129 (Int32.toNatClampNeg (((140 : Int32) * (σ 123 14)) + (σ 128 (Int32.toNatClampNeg (σ 123 14)))))); if (s85 123 4) = (-1 : Int32) then ((o12_look s86) ∧ (let r89 := (f12_look s86); if r89.1 = (63 : Int32) then (let s90 := sp r89.2 123 3 ((r89.2 123 3) + (1 : Int32)); (vp_in (r89.2 123 14) 5) ∧ ((vp_in (((140 : Int32) * (σ 123 14)) + (σ 128 (Int32.toNatClampNeg (σ 123 14)))) 700) ∧ (let s91 := sp s90 130 (Int32.toNatClampNeg (((140 : Int32) * (σ 123 14)) + (σ 128 (Int32.toNatClampNeg (σ 123 14))))) (r89.2 127 (Int32.toNatClampNeg (r89.2 123 14))); (o12_sumR s91) ∧ (let s92 := (f12_sumR s91); (vp_in (s92 123 14) 5) ∧ ((vp_in (((140 : Int32) * (σ 123 14)) + (σ 128 (Int32.toNatClampNeg (σ 123 14)))) 700) ∧ (let s93 := sp s92 131 (Int32.toNatClampNeg (((140 : Int32) * (σ 123 14)) + (σ 128 (Int32.toNatClampNeg (σ 123 14))))) (s92 127 (Int32.toNatClampNeg (s92 123 14))); (vp_in (s92 123 14) 5) ∧ ((vp_in (s92 123 14) 5) ∧ (let s94 := sp s93 128 (Int32.toNatClampNeg (s92 123 14)) ((s92 128 (Int32.toNatClampNeg (s92 123 14))) + (1 : Int32)); True)))))))) else (let s95 := (f12_bad r89.2); True))) else ((vp_in (s85 123 14) 5) ∧ ((vp_in (((140 : Int32) * (σ 123 14)) + (σ 128 (Int32.toNatClampNeg (σ 123 14)))) 700) ∧ (let s87 := sp s86 131 (Int32.toNatClampNeg (((140 : Int32) * (σ 123 14)) + (σ 128 (Int32.toNatClampNeg (σ 123 14))))) (s85 127 (Int32.toNatClampNeg (s85 123 14))); (vp_in (s85 123 14) 5) ∧ ((vp_in (s85 123 14) 5) ∧ (let s88 := sp s87 128 (Int32.toNatClampNeg (s85 123 14)) ((s85 128 (Int32.toNatClampNeg (s85 123 14))) + (1 : Int32)); True))))))))) else ((o12_sumR r63.2) ∧ (let s64 := (f12_sumR r63.2); if (s64 123 4) = (-1 : Int32) then ((o12_look s64) ∧ (let r68 := (f12_look s64); if (f12_isSign r68.1) = true then ((o12_compare r68.2) ∧ (let s72 := (f12_compare r68.2); (o12_goOnAndR s72) ∧ (let s73 := (f12_goOnAndR s72); (o12_goOnOrR s73) ∧ (let s74 := (f12_goOnOrR s73); (vp_in (((140 : Int32) * (σ 123 14)) + (σ 128 (Int32.toNatClampNeg (σ 123 14)))) 700) ∧ ((vp_in (((140 : Int32) * (σ 123 14)) + (σ 128 (Int32.toNatClampNeg (σ 123 14)))) 700) ∧ (let s75 := sp s74 130 (Int32.toNatClampNeg (((140 : Int32) * (σ 123 14)) + (σ 128 (Int32.toNatClampNeg (σ 123 14))))) (s74 129 (Int32.toNatClampNeg (((140 : Int32) * (σ 123 14)) + (σ 128 (Int32.toNatClampNeg (σ 123 14)))))); if (s74 123 4) = (-1 : Int32) then ((o12_look s75) ∧ (let r78 := (f12_look s75); if r78.1 = (63 : Int32) then (let s79 := sp r78.2 123 3 ((r78.2 123 3) + (1 : Int32)); (vp_in (r78.2 123 14) 5) ∧ ((vp_in (((140 : Int32) * (σ 123 14)) + (σ 128 (Int32.toNatClampNeg (σ 123 14)))) 700) ∧ (let s80 := sp s79 130 (Int32.toNatClampNeg (((140 : Int32) * (σ 123 14)) + (σ 128 (Int32.toNatClampNeg (σ 123 14))))) (r78.2 127 (Int32.toNatClampNeg (r78.2 123 14))); (o12_sumR s80) ∧ (let s81 := (f12_sumR s80); (vp_in (s81 123 14) 5) ∧ ((vp_in (((140 : Int32) * (σ 123 14)) + (σ 128 (Int32.toNatClampNeg (σ 123 14)))) 700) ∧ (let s82 := sp s81 131 (Int32.toNatClampNeg (((140 : Int32) * (σ 123 14)) + (σ 128 (Int32.toNatClampNeg (σ 123 14))))) (s81 127 (Int32.toNatClampNeg (s81 123 14))); (vp_in (s81 123 14) 5) ∧ ((vp_in (s81 123 14) 5) ∧ (let s83 := sp s82 128 (Int32.toNatClampNeg (s81 123 14)) ((s81 128 (Int32.toNatClampNeg (s81 123 14))) + (1 : Int32)); True)))))))) else (let s84 := (f12_bad r78.2); True))) else ((vp_in (s74 123 14) 5) ∧ ((vp_in (((140 : Int32) * (σ 123 14)) + (σ 128 (Int32.toNatClampNeg (σ 123 14)))) 700) ∧ (let s76 := sp s75 131 (Int32.toNatClampNeg (((140 : Int32) * (σ 123 14)) + (σ 128 (Int32.toNatClampNeg (σ 123 14))))) (s74 127 (Int32.toNatClampNeg (s74 123 14))); (vp_in (s74 123 14) 5) ∧ ((vp_in (s74 123 14) 5) ∧ (let s77 := sp s76 128 (Int32.toNatClampNeg (s74 123 14)) ((s74 128 (Int32.toNatClampNeg (s74 123 14))) + (1 : Int32)); True))))))))))) else ((vp_in (((140 : Int32) * (σ 123 14)) + (σ 128 (Int32.toNatClampNeg (σ 123 14)))) 700) ∧ ((vp_in (((140 : Int32) * (σ 123 14)) + (σ 128 (Int32.toNatClampNeg (σ 123 14)))) 700) ∧ (let s69 := sp r68.2 130 (Int32.toNatClampNeg (((140 : Int32) * (σ 123 14)) + (σ 128 (Int32.toNatClampNeg (σ 123 14))))) (r68.2 129 (Int32.toNatClampNeg (((140 : Int32) * (σ 123 14)) + (σ 128 (Int32.toNatClampNeg (σ 123 14)))))); (vp_in (r68.2 123 14) 5) ∧ ((vp_in (((140 : Int32) * (σ 123 14)) + (σ 128 (Int32.toNatClampNeg (σ 123 14)))) 700) ∧ (let s70 := sp s69 131 (Int32.toNatClampNeg (((140 : Int32) * (σ 123 14)) + (σ 128 (Int32.toNatClampNeg (σ 123 14))))) (r68.2 127 (Int32.toNatClampNeg (r68.2 123 14))); (vp_in (r68.2 123 14) 5) ∧ ((vp_in (r68.2 123 14) 5) ∧ (let s71 := sp s70 128 (Int32.toNatClampNeg (r68.2 123 14)) ((r68.2 128 (Int32.toNatClampNeg (r68.2 123 14))) + (1 : Int32)); True))))))))) else ((vp_in (((140 : Int32) * (σ 123 14)) + (σ 128 (Int32.toNatClampNeg (σ 123 14)))) 700) ∧ ((vp_in (((140 : Int32) * (σ 123 14)) + (σ 128 (Int32.toNatClampNeg (σ 123 14)))) 700) ∧ (let s65 := sp s64 130 (Int32.toNatClampNeg (((140 : Int32) * (σ 123 14)) + (σ 128 (Int32.toNatClampNeg (σ 123 14))))) (s64 129 (Int32.toNatClampNeg (((140 : Int32) * (σ 123 14)) + (σ 128 (Int32.toNatClampNeg (σ 123 14)))))); (vp_in (s64 123 14) 5) ∧ ((vp_in (((140 : Int32) * (σ 123 14)) + (σ 128 (Int32.toNatClampNeg (σ 123 14)))) 700) ∧ (let s66 := sp s65 131 (Int32.toNatClampNeg (((140 : Int32) * (σ 123 14)) + (σ 128 (Int32.toNatClampNeg (σ 123 14))))) (s64 127 (Int32.toNatClampNeg (s64 123 14))); (vp_in (s64 123 14) 5) ∧ ((vp_in (s64 123 14) 5) ∧ (let s67 := sp s66 128 (Int32.toNatClampNeg (s64 123 14)) ((s64 128 (Int32.toNatClampNeg (s64 123 14))) + (1 : Int32)); True))))))))))))))) else True) else (let s96 := (f12_bad r48.2); let s97 := sp s96 123 3 ((s96 123 3) + (1 : Int32)); if (s96 123 4) = (-1 : Int32) then ((vp_in (s96 123 14) 5) ∧ ((vp_in (((140 : Int32) * (σ 123 14)) + (σ 128 (Int32.toNatClampNeg (σ 123 14)))) 700) ∧ (let s98 := sp s97 129 (Int32.toNatClampNeg (((140 : Int32) * (σ 123 14)) + (σ 128 (Int32.toNatClampNeg (σ 123 14))))) (s96 127 (Int32.toNatClampNeg (s96 123 14))); (o12_look s98) ∧ (let r99 := (f12_look s98); if r99.1 = (33 : Int32) then ((o12_conditionR r99.2) ∧ (let s100 := (f12_conditionR r99.2); (vp_in (((140 : Int32) * (σ 123 14)) + (σ 128 (Int32.toNatClampNeg (σ 123 14)))) 700) ∧ ((vp_in (((140 : Int32) * (σ 123 14)) + (σ 128 (Int32.toNatClampNeg (σ 123 14)))) 700) ∧ (let s101 := sp s100 130 (Int32.toNatClampNeg (((140 : Int32) * (σ 123 14)) + (σ 128 (Int32.toNatClampNeg (σ 123 14))))) (s100 129 (Int32.toNatClampNeg (((140 : Int32) * (σ 123 14)) + (σ 128 (Int32.toNatClampNeg (σ 123 14)))))); if (s100 123 4) = (-1 : Int32) then ((o12_look s101) ∧ (let r104 := (f12_look s101); if r104.1 = (63 : Int32) then (let s105 := sp r104.2 123 3 ((r104.2 123 3) + (1 : Int32)); (vp_in (r104.2 123 14) 5) ∧ ((vp_in (((140 : Int32) * (σ 123 14)) + (σ 128 (Int32.toNatClampNeg (σ 123 14)))) 700) ∧ (let s106 := sp s105 130 (Int32.toNatClampNeg (((140 : Int32) * (σ 123 14)) + (σ 128 (Int32.toNatClampNeg (σ 123 14))))) (r104.2 127 (Int32.toNatClampNeg (r104.2 123 14))); (o12_sumR s106) ∧ (let s107 := (f12_sumR s106); (vp_in (s107 123 14) 5) ∧ ((vp_in (((140 : Int32) * (σ 123 14)) + (σ 128 (Int32.toNatClampNeg (σ 123 14)))) 700) ∧ (let s108 := sp s107 131 (Int32.toNatClampNeg (((140 : Int32) * (σ 123 14)) + (σ 128 (Int32.toNatClampNeg (σ 123 14))))) (s107 127 (Int32.toNatClampNeg (s107 123 14))); (vp_in (s107 123 14) 5) ∧ ((vp_in (s107 123 14) 5) ∧ (let s109 := sp s108 128 (Int32.toNatClampNeg (s107 123 14)) ((s107 128 (Int32.toNatClampNeg (s107 123 14))) + (1 : Int32)); True)))))))) else (let s110 := (f12_bad r104.2); True))) else ((vp_in (s100 123 14) 5) ∧ ((vp_in (((140 : Int32) * (σ 123 14)) + (σ 128 (Int32.toNatClampNeg (σ 123 14)))) 700) ∧ (let s102 := sp s101 131 (Int32.toNatClampNeg (((140 : Int32) * (σ 123 14)) + (σ 128 (Int32.toNatClampNeg (σ 123 14))))) (s100 127 (Int32.toNatClampNeg (s100 123 14))); (vp_in (s100 123 14) 5) ∧ ((vp_in (s100 123 14) 5) ∧ (let s103 := sp s102 128 (Int32.toNatClampNeg (s100 123 14)) ((s100 128 (Int32.toNatClampNeg (s100 123 14))) + (1 : Int32)); True))))))))) else ((o12_look r99.2) ∧ (let r111 := (f12_look r99.2); if r111.1 = (40 : Int32) then ((o12_conditionR r111.2) ∧ (let s133 := (f12_conditionR r111.2); (vp_in (((140 : Int32) * (σ 123 14)) + (σ 128 (Int32.toNatClampNeg (σ 123 14)))) 700) ∧ ((vp_in (((140 : Int32) * (σ 123 14)) + (σ 128 (Int32.toNatClampNeg (σ 123 14)))) 700) ∧ (let s134 := sp s133 130 (Int32.toNatClampNeg (((140 : Int32) * (σ 123 14)) + (σ 128 (Int32.toNatClampNeg (σ 123 14))))) (s133 129 (Int32.toNatClampNeg (((140 : Int32) * (σ 123 14)) + (σ 128 (Int32.toNatClampNeg (σ 123 14)))))); if (s133 123 4) = (-1 : Int32) then ((o12_look s134) ∧ (let r137 := (f12_look s134); if r137.1 = (63 : Int32) then (let s138 := sp r137.2 123 3 ((r137.2 123 3) + (1 : Int32)); (vp_in (r137.2 123 14) 5) ∧ ((vp_in (((140 : Int32) * (σ 123 14)) + (σ 128 (Int32.toNatClampNeg (σ 123 14)))) 700) ∧ (let s139 := sp s138 130 (Int32.toNatClampNeg (((140 : Int32) * (σ 123 14)) + (σ 128 (Int32.toNatClampNeg (σ 123 14))))) (r137.2 127 (Int32.toNatClampNeg (r137.2 123 14))); (o12_sumR s139) ∧ (let s140 := (f12_sumR s139); (vp_in (s140 123 14) 5) ∧ ((vp_in (((140 : Int32) * (σ 123 14)) + (σ 128 (Int32.toNatClampNeg (σ 123 14)))) 700) ∧ (let s141 := sp s140 131 (Int32.toNatClampNeg (((140 : Int32) * (σ 123 14)) + (σ 128 (Int32.toNatClampNeg (σ 123 14))))) (s140 127 (Int32.toNatClampNeg (s140 123 14))); (vp_in (s140 123 14) 5) ∧ ((vp_in (s140 123 14) 5) ∧ (let s142 := sp s141 128 (Int32.toNatClampNeg (s140 123 14)) ((s140 128 (Int32.toNatClampNeg (s140 123 14))) + (1 : Int32)); True)))))))) else (let s143 := (f12_bad r137.2); True))) else ((vp_in (s133 123 14) 5) ∧ ((vp_in (((140 : Int32) * (σ 123 14)) + (σ 128 (Int32.toNatClampNeg (σ 123 14)))) 700) ∧ (let s135 := sp s134 131 (Int32.toNatClampNeg (((140 : Int32) * (σ 123 14)) + (σ 128 (Int32.toNatClampNeg (σ 123 14))))) (s133 127 (Int32.toNatClampNeg (s133 123 14))); (vp_in (s133 123 14) 5) ∧ ((vp_in (s133 123 14) 5) ∧ (let s136 := sp s135 128 (Int32.toNatClampNeg (s133 123 14)) ((s133 128 (Int32.toNatClampNeg (s133 123 14))) + (1 : Int32)); True))))))))) else ((o12_sumR r111.2) ∧ (let s112 := (f12_sumR r111.2); if (s112 123 4) = (-1 : Int32) then ((o12_look s112) ∧ (let r116 := (f12_look s112); if (f12_isSign r116.1) = true then ((o12_compare r116.2) ∧ (let s120 := (f12_compare r116.2); (o12_goOnAndR s120) ∧ (let s121 := (f12_goOnAndR s120); (o12_goOnOrR s121) ∧ (let s122 := (f12_goOnOrR s121); (vp_in (((140 : Int32) * (σ 123 14)) + (σ 128 (Int32.toNatClampNeg (σ 123 14)))) 700) ∧ ((vp_in (((140 : Int32) * (σ 123 14)) + (σ 128 (Int32.toNatClampNeg (σ 123 14)))) 700) ∧ (let s123 := sp s122 130 (Int32.toNatClampNeg (((140 : Int32) * (σ 123 14)) + (σ 128 (Int32.toNatClampNeg (σ 123 14))))) (s122 129 (Int32.toNatClampNeg (((140 : Int32) * (σ 123 14)) + (σ 128 (Int32.toNatClampNeg (σ 123 14)))))); if (s122 123 4) = (-1 : Int32) then ((o12_look s123) ∧ (let r126 := (f12_look s123); if r126.1 = (63 : Int32) then (let s127 := sp r126.2 123 3 ((r126.2 123 3) + (1 : Int32)); (vp_in (r126.2 123 14) 5) ∧ ((vp_in (((140 : Int32) * (σ 123 14)) + (σ 128 (Int32.toNatClampNeg (σ 123 14)))) 700) ∧ (let s128 := sp s127 130 (Int32.toNatClampNeg (((140 : Int32) * (σ 123 14)) + (σ 128 (Int32.toNatClampNeg (σ 123 14))))) (r126.2 127 (Int32.toNatClampNeg (r126.2 123 14))); (o12_sumR s128) ∧ (let s129 := (f12_sumR s128); (vp_in (s129 123 14) 5) ∧ ((vp_in (((140 : Int32) * (σ 123 14)) + (σ 128 (Int32.toNatClampNeg (σ 123 14)))) 700) ∧ (let s130 := sp s129 131 (Int32.toNatClampNeg (((140 : Int32) * (σ 123 14)) + (σ 128 (Int32.toNatClampNeg (σ 123 14))))) (s129 127 (Int32.toNatClampNeg (s129 123 14))); (vp_in (s129 123 14) 5) ∧ ((vp_in (s129 123 14) 5) ∧ (let s131 := sp s130 128 (Int32.toNatClampNeg (s129 123 14)) ((s129 128 (Int32.toNatClampNeg (s129 123 14))) + (1 : Int32)); True)))))))) else (let s132 := (f12_bad r126.2); True))) else ((vp_in (s122 123 14) 5) ∧ ((vp_in (((140 : Int32) * (σ 123 14)) + (σ 128 (Int32.toNatClampNeg (σ 123 14)))) 700) ∧ (let s124 := sp s123 131 (Int32.toNatClampNeg (((140 : Int32) * (σ 123 14)) + (σ 128 (Int32.toNatClampNeg (σ 123 14))))) (s122 127 (Int32.toNatClampNeg (s122 123 14))); (vp_in (s122 123 14) 5) ∧ ((vp_in (s122 123 14) 5) ∧ (let s125 := sp s124 128 (Int32.toNatClampNeg (s122 123 14)) ((s122 128 (Int32.toNatClampNeg (s122 123 14))) + (1 : Int32)); True))))))))))) else ((vp_in (((140 : Int32) * (σ 123 14)) + (σ 128 (Int32.toNatClampNeg (σ 123 14)))) 700) ∧ ((vp_in (((140 : Int32) * (σ 123 14)) + (σ 128 (Int32.toNatClampNeg (σ 123 14)))) 700) ∧ (let s117 := sp r116.2 130 (Int32.toNatClampNeg (((140 : Int32) * (σ 123 14)) + (σ 128 (Int32.toNatClampNeg (σ 123 14))))) (r116.2 129 (Int32.toNatClampNeg (((140 : Int32) * (σ 123 14)) + (σ 128 (Int32.toNatClampNeg (σ 123 14)))))); (vp_in (r116.2 123 14) 5) ∧ ((vp_in (((140 : Int32) * (σ 123 14)) + (σ 128 (Int32.toNatClampNeg (σ 123 14)))) 700) ∧ (let s118 := sp s117 131 (Int32.toNatClampNeg (((140 : Int32) * (σ 123 14)) + (σ 128 (Int32.toNatClampNeg (σ 123 14))))) (r116.2 127 (Int32.toNatClampNeg (r116.2 123 14))); (vp_in (r116.2 123 14) 5) ∧ ((vp_in (r116.2 123 14) 5) ∧ (let s119 := sp s118 128 (Int32.toNatClampNeg (r116.2 123 14)) ((r116.2 128 (Int32.toNatClampNeg (r116.2 123 14))) + (1 : Int32)); True))))))))) else ((vp_in (((140 : Int32) * (σ 123 14)) + (σ 128 (Int32.toNatClampNeg (σ 123 14)))) 700) ∧ ((vp_in (((140 : Int32) * (σ 123 14)) + (σ 128 (Int32.toNatClampNeg (σ 123 14)))) 700) ∧ (let s113 := sp s112 130 (Int32.toNatClampNeg (((140 : Int32) * (σ 123 14)) + (σ 128 (Int32.toNatClampNeg (σ 123 14))))) (s112 129 (Int32.toNatClampNeg (((140 : Int32) * (σ 123 14)) + (σ 128 (Int32.toNatClampNeg (σ 123 14)))))); (vp_in (s112 123 14) 5) ∧ ((vp_in (((140 : Int32) * (σ 123 14)) + (σ 128 (Int32.toNatClampNeg (σ 123 14)))) 700) ∧ (let s114 := sp s113 131 (Int32.toNatClampNeg (((140 : Int32) * (σ 123 14)) + (σ 128 (Int32.toNatClampNeg (σ 123 14))))) (s112 127 (Int32.toNatClampNeg (s112 123 14))); (vp_in (s112 123 14) 5) ∧ ((vp_in (s112 123 14) 5) ∧ (let s115 := sp s114 128 (Int32.toNatClampNeg (s112 123 14)) ((s112 128 (Int32.toNatClampNeg (s112 123 14))) + (1 : Int32)); True))))))))))))))) else True))) else (let s1 := sp s0 123 3 (((σ 123 3) + (1 : Int32)) + (1 : Int32)); if (σ 123 4) = (-1 : Int32) then ((vp_in (σ 123 14) 5) ∧ ((vp_in (((140 : Int32) * (σ 123 14)) + (σ 128 (Int32.toNatClampNeg (σ 123 14)))) 700) ∧ (let s2 := sp s1 129 (Int32.toNatClampNeg (((140 : Int32) * (σ 123 14)) + (σ 128 (Int32.toNatClampNeg (σ 123 14))))) (σ 127 (Int32.toNatClampNeg (σ 123 14))); (o12_look s2) ∧ (let r3 := (f12_look s2); if r3.1 = (33 : Int32) then ((o12_conditionR r3.2) ∧ (let s4 := (f12_conditionR r3.2); (vp_in (((140 : Int32) * (σ 123 14)) + (σ 128 (Int32.toNatClampNeg (σ 123 14)))) 700) ∧ ((vp_in (((140 : Int32) * (σ 123 14)) + (σ 128 (Int32.toNatClampNeg (σ 123 14)))) 700) ∧ (let s5 := sp s4 130 (Int32.toNatClampNeg (((140 : Int32) * (σ 123 14)) + (σ 128 (Int32.toNatClampNeg (σ 123 14))))) (s4 129 (Int32.toNatClampNeg (((140 : Int32) * (σ 123 14)) + (σ 128 (Int32.toNatClampNeg (σ 123 14)))))); if (s4 123 4) = (-1 : Int32) then ((o12_look s5) ∧ (let r8 := (f12_look s5); if r8.1 = (63 : Int32) then (let s9 := sp r8.2 123 3 ((r8.2 123 3) + (1 : Int32)); (vp_in (r8.2 123 14) 5) ∧ ((vp_in (((140 : Int32) * (σ 123 14)) + (σ 128 (Int32.toNatClampNeg (σ 123 14)))) 700) ∧ (let s10 := sp s9 130 (Int32.toNatClampNeg (((140 : Int32) * (σ 123 14)) + (σ 128 (Int32.toNatClampNeg (σ 123 14))))) (r8.2 127 (Int32.toNatClampNeg (r8.2 123 14))); (o12_sumR s10) ∧ (let s11 := (f12_sumR s10); (vp_in (s11 123 14) 5) ∧ ((vp_in (((140 : Int32) * (σ 123 14)) + (σ 128 (Int32.toNatClampNeg (σ 123 14)))) 700) ∧ (let s12 := sp s11 131 (Int32.toNatClampNeg (((140 : Int32) * (σ 123 14)) + (σ 128 (Int32.toNatClampNeg (σ 123 14))))) (s11 127 (Int32.toNatClampNeg (s11 123 14))); (vp_in (s11 123 14) 5) ∧ ((vp_in (s11 123 14) 5) ∧ (let s13 := sp s12 128 (Int32.toNatClampNeg (s11 123 14)) ((s11 128 (Int32.toNatClampNeg (s11 123 14))) + (1 : Int32)); True)))))))) else (let s14 := (f12_bad r8.2); True))) else ((vp_in (s4 123 14) 5) ∧ ((vp_in (((140 : Int32) * (σ 123 14)) + (σ 128 (Int32.toNatClampNeg (σ 123 14)))) 700) ∧ (let s6 := sp s5 131 (Int32.toNatClampNeg (((140 : Int32) * (σ 123 14)) + (σ 128 (Int32.toNatClampNeg (σ 123 14))))) (s4 127 (Int32.toNatClampNeg (s4 123 14))); (vp_in (s4 123 14) 5) ∧ ((vp_in (s4 123 14) 5) ∧ (let s7 := sp s6 128 (Int32.toNatClampNeg (s4 123 14)) ((s4 128 (Int32.toNatClampNeg (s4 123 14))) + (1 : Int32)); True))))))))) else ((o12_look r3.2) ∧ (let r15 := (f12_look r3.2); if r15.1 = (40 : Int32) then ((o12_conditionR r15.2) ∧ (let s37 := (f12_conditionR r15.2); (vp_in (((140 : Int32) * (σ 123 14)) + (σ 128 (Int32.toNatClampNeg (σ 123 14)))) 700) ∧ ((vp_in (((140 : Int32) * (σ 123 14)) + (σ 128 (Int32.toNatClampNeg (σ 123 14)))) 700) ∧ (let s38 := sp s37 130 (Int32.toNatClampNeg (((140 : Int32) * (σ 123 14)) + (σ 128 (Int32.toNatClampNeg (σ 123 14))))) (s37 129 (Int32.toNatClampNeg (((140 : Int32) * (σ 123 14)) + (σ 128 (Int32.toNatClampNeg (σ 123 14)))))); if (s37 123 4) = (-1 : Int32) then ((o12_look s38) ∧ (let r41 := (f12_look s38); if r41.1 = (63 : Int32) then (let s42 := sp r41.2 123 3 ((r41.2 123 3) + (1 : Int32)); (vp_in (r41.2 123 14) 5) ∧ ((vp_in (((140 : Int32) * (σ 123 14)) + (σ 128 (Int32.toNatClampNeg (σ 123 14)))) 700) ∧ (let s43 := sp s42 130 (Int32.toNatClampNeg (((140 : Int32) * (σ 123 14)) + (σ 128 (Int32.toNatClampNeg (σ 123 14))))) (r41.2 127 (Int32.toNatClampNeg (r41.2 123 14))); (o12_sumR s43) ∧ (let s44 := (f12_sumR s43); (vp_in (s44 123 14) 5) ∧ ((vp_in (((140 : Int32) * (σ 123 14)) + (σ 128 (Int32.toNatClampNeg (σ 123 14)))) 700) ∧ (let s45 := sp s44 131 (Int32.toNatClampNeg (((140 : Int32) * (σ 123 14)) + (σ 128 (Int32.toNatClampNeg (σ 123 14))))) (s44 127 (Int32.toNatClampNeg (s44 123 14))); (vp_in (s44 123 14) 5) ∧ ((vp_in (s44 123 14) 5) ∧ (let s46 := sp s45 128 (Int32.toNatClampNeg (s44 123 14)) ((s44 128 (Int32.toNatClampNeg (s44 123 14))) + (1 : Int32)); True)))))))) else (let s47 := (f12_bad r41.2); True))) else ((vp_in (s37 123 14) 5) ∧ ((vp_in (((140 : Int32) * (σ 123 14)) + (σ 128 (Int32.toNatClampNeg (σ 123 14)))) 700) ∧ (let s39 := sp s38 131 (Int32.toNatClampNeg (((140 : Int32) * (σ 123 14)) + (σ 128 (Int32.toNatClampNeg (σ 123 14))))) (s37 127 (Int32.toNatClampNeg (s37 123 14))); (vp_in (s37 123 14) 5) ∧ ((vp_in (s37 123 14) 5) ∧ (let s40 := sp s39 128 (Int32.toNatClampNeg (s37 123 14)) ((s37 128 (Int32.toNatClampNeg (s37 123 14))) + (1 : Int32)); True))))))))) else ((o12_sumR r15.2) ∧ (let s16 := (f12_sumR r15.2); if (s16 123 4) = (-1 : Int32) then ((o12_look s16) ∧ (let r20 := (f12_look s16); if (f12_isSign r20.1) = true then ((o12_compare r20.2) ∧ (let s24 := (f12_compare r20.2); (o12_goOnAndR s24) ∧ (let s25 := (f12_goOnAndR s24); (o12_goOnOrR s25) ∧ (let s26 := (f12_goOnOrR s25); (vp_in (((140 : Int32) * (σ 123 14)) + (σ 128 (Int32.toNatClampNeg (σ 123 14)))) 700) ∧ ((vp_in (((140 : Int32) * (σ 123 14)) + (σ 128 (Int32.toNatClampNeg (σ 123 14)))) 700) ∧ (let s27 := sp s26 130 (Int32.toNatClampNeg (((140 : Int32) * (σ 123 14)) + (σ 128 (Int32.toNatClampNeg (σ 123 14))))) (s26 129 (Int32.toNatClampNeg (((140 : Int32) * (σ 123 14)) + (σ 128 (Int32.toNatClampNeg (σ 123 14)))))); if (s26 123 4) = (-1 : Int32) then ((o12_look s27) ∧ (let r30 := (f12_look s27); if r30.1 = (63 : Int32) then (let s31 := sp r30.2 123 3 ((r30.2 123 3) + (1 : Int32)); (vp_in (r30.2 123 14) 5) ∧ ((vp_in (((140 : Int32) * (σ 123 14)) + (σ 128 (Int32.toNatClampNeg (σ 123 14)))) 700) ∧ (let s32 := sp s31 130 (Int32.toNatClampNeg (((140 : Int32) * (σ 123 14)) + (σ 128 (Int32.toNatClampNeg (σ 123 14))))) (r30.2 127 (Int32.toNatClampNeg (r30.2 123 14))); (o12_sumR s32) ∧ (let s33 := (f12_sumR s32); (vp_in (s33 123 14) 5) ∧ ((vp_in (((140 : Int32) * (σ 123 14)) + (σ 128 (Int32.toNatClampNeg (σ 123 14)))) 700) ∧ (let s34 := sp s33 131 (Int32.toNatClampNeg (((140 : Int32) * (σ 123 14)) + (σ 128 (Int32.toNatClampNeg (σ 123 14))))) (s33 127 (Int32.toNatClampNeg (s33 123 14))); (vp_in (s33 123 14) 5) ∧ ((vp_in (s33 123 14) 5) ∧ (let s35 := sp s34 128 (Int32.toNatClampNeg (s33 123 14)) ((s33 128 (Int32.toNatClampNeg (s33 123 14))) + (1 : Int32)); True)))))))) else (let s36 := (f12_bad r30.2); True))) else ((vp_in (s26 123 14) 5) ∧ ((vp_in (((140 : Int32) * (σ 123 14)) + (σ 128 (Int32.toNatClampNeg (σ 123 14)))) 700) ∧ (let s28 := sp s27 131 (Int32.toNatClampNeg (((140 : Int32) * (σ 123 14)) + (σ 128 (Int32.toNatClampNeg (σ 123 14))))) (s26 127 (Int32.toNatClampNeg (s26 123 14))); (vp_in (s26 123 14) 5) ∧ ((vp_in (s26 123 14) 5) ∧ (let s29 := sp s28 128 (Int32.toNatClampNeg (s26 123 14)) ((s26 128 (Int32.toNatClampNeg (s26 123 14))) + (1 : Int32)); True))))))))))) else ((vp_in (((140 : Int32) * (σ 123 14)) + (σ 128 (Int32.toNatClampNeg (σ 123 14)))) 700) ∧ ((vp_in (((140 : Int32) * (σ 123 14)) + (σ 128 (Int32.toNatClampNeg (σ 123 14)))) 700) ∧ (let s21 := sp r20.2 130 (Int32.toNatClampNeg (((140 : Int32) * (σ 123 14)) + (σ 128 (Int32.toNatClampNeg (σ 123 14))))) (r20.2 129 (Int32.toNatClampNeg (((140 : Int32) * (σ 123 14)) + (σ 128 (Int32.toNatClampNeg (σ 123 14)))))); (vp_in (r20.2 123 14) 5) ∧ ((vp_in (((140 : Int32) * (σ 123 14)) + (σ 128 (Int32.toNatClampNeg (σ 123 14)))) 700) ∧ (let s22 := sp s21 131 (Int32.toNatClampNeg (((140 : Int32) * (σ 123 14)) + (σ 128 (Int32.toNatClampNeg (σ 123 14))))) (r20.2 127 (Int32.toNatClampNeg (r20.2 123 14))); (vp_in (r20.2 123 14) 5) ∧ ((vp_in (r20.2 123 14) 5) ∧ (let s23 := sp s22 128 (Int32.toNatClampNeg (r20.2 123 14)) ((r20.2 128 (Int32.toNatClampNeg (r20.2 123 14))) + (1 : Int32)); True))))))))) else ((vp_in (((140 : Int32) * (σ 123 14)) + (σ 128 (Int32.toNatClampNeg (σ 123 14)))) 700) ∧ ((vp_in (((140 : Int32) * (σ 123 14)) + (σ 128 (Int32.toNatClampNeg (σ 123 14)))) 700) ∧ (let s17 := sp s16 130 (Int32.toNatClampNeg (((140 : Int32) * (σ 123 14)) + (σ 128 (Int32.toNatClampNeg (σ 123 14))))) (s16 129 (Int32.toNatClampNeg (((140 : Int32) * (σ 123 14)) + (σ 128 (Int32.toNatClampNeg (σ 123 14)))))); (vp_in (s16 123 14) 5) ∧ ((vp_in (((140 : Int32) * (σ 123 14)) + (σ 128 (Int32.toNatClampNeg (σ 123 14)))) 700) ∧ (let s18 := sp s17 131 (Int32.toNatClampNeg (((140 : Int32) * (σ 123 14)) + (σ 128 (Int32.toNatClampNeg (σ 123 14))))) (s16 127 (Int32.toNatClampNeg (s16 123 14))); (vp_in (s16 123 14) 5) ∧ ((vp_in (s16 123 14) 5) ∧ (let s19 := sp s18 128 (Int32.toNatClampNeg (s16 123 14)) ((s16 128 (Int32.toNatClampNeg (s16 123 14))) + (1 : Int32)); True))))))))))))))) else True)))
theorem w_f12_clause (σ : SI) (a : Nat) (h0 : a ≠ 123) (h1 : a ≠ 125) (h2 : a ≠ 126) (h3 : a ≠ 127) (h4 : a ≠ 128) (h5 : a ≠ 129) (h6 : a ≠ 130) (h7 : a ≠ 131) : (f12_clause σ) a = σ a := by
  unfold f12_clause
  exact (fr_ite (fr_ite (fr_ite (fr_ite (fr_ite (fr_ite (fr_ite (fr_ite ((sp_n h4).trans ((sp_n h7).trans ((w_f12_sumR _ a h0 h1 h2 h3).trans ((sp_n h6).trans ((sp_n h0).trans ((w_f12_look _ a h0).trans ((sp_n h6).trans ((w_f12_conditionR _ a h0 h1 h2 h3).trans ((w_f12_look _ a h0).trans ((sp_n h5).trans ((sp_n h0).trans ((w_f12_look _ a h0).trans ((sp_n h0).trans (w_f12_look _ a h0)))))))))))))) ((w_f12_bad _ a h0).trans ((w_f12_look _ a h0).trans ((sp_n h6).trans ((w_f12_conditionR _ a h0 h1 h2 h3).trans ((w_f12_look _ a h0).trans ((sp_n h5).trans ((sp_n h0).trans ((w_f12_look _ a h0).trans ((sp_n h0).trans (w_f12_look _ a h0))))))))))) ((sp_n h4).trans ((sp_n h7).trans ((sp_n h6).trans ((w_f12_conditionR _ a h0 h1 h2 h3).trans ((w_f12_look _ a h0).trans ((sp_n h5).trans ((sp_n h0).trans ((w_f12_look _ a h0).trans ((sp_n h0).trans (w_f12_look _ a h0))))))))))) (fr_ite (fr_ite (fr_ite ((sp_n h4).trans ((sp_n h7).trans ((w_f12_sumR _ a h0 h1 h2 h3).trans ((sp_n h6).trans ((sp_n h0).trans ((w_f12_look _ a h0).trans ((sp_n h6).trans ((w_f12_conditionR _ a h0 h1 h2 h3).trans ((w_f12_look _ a h0).trans ((w_f12_look _ a h0).trans ((sp_n h5).trans ((sp_n h0).trans ((w_f12_look _ a h0).trans ((sp_n h0).trans (w_f12_look _ a h0))))))))))))))) ((w_f12_bad _ a h0).trans ((w_f12_look _ a h0).trans ((sp_n h6).trans ((w_f12_conditionR _ a h0 h1 h2 h3).trans ((w_f12_look _ a h0).trans ((w_f12_look _ a h0).trans ((sp_n h5).trans ((sp_n h0).trans ((w_f12_look _ a h0).trans ((sp_n h0).trans (w_f12_look _ a h0)))))))))))) ((sp_n h4).trans ((sp_n h7).trans ((sp_n h6).trans ((w_f12_conditionR _ a h0 h1 h2 h3).trans ((w_f12_look _ a h0).trans ((w_f12_look _ a h0).trans ((sp_n h5).trans ((sp_n h0).trans ((w_f12_look _ a h0).trans ((sp_n h0).trans (w_f12_look _ a h0)))))))))))) (fr_ite (fr_ite (fr_ite (fr_ite ((sp_n h4).trans ((sp_n h7).trans ((w_f12_sumR _ a h0 h1 h2 h3).trans ((sp_n h6).trans ((sp_n h0).trans ((w_f12_look _ a h0).trans ((sp_n h6).trans ((w_f12_goOnOrR _ a h0 h1 h2 h3).trans ((w_f12_goOnAndR _ a h0 h1 h2 h3).trans ((w_f12_compare _ a h0 h1 h2 h3).trans ((w_f12_look _ a h0).trans ((w_f12_sumR _ a h0 h1 h2 h3).trans ((w_f12_look _ a h0).trans ((w_f12_look _ a h0).trans ((sp_n h5).trans ((sp_n h0).trans ((w_f12_look _ a h0).trans ((sp_n h0).trans (w_f12_look _ a h0))))))))))))))))))) ((w_f12_bad _ a h0).trans ((w_f12_look _ a h0).trans ((sp_n h6).trans ((w_f12_goOnOrR _ a h0 h1 h2 h3).trans ((w_f12_goOnAndR _ a h0 h1 h2 h3).trans ((w_f12_compare _ a h0 h1 h2 h3).trans ((w_f12_look _ a h0).trans ((w_f12_sumR _ a h0 h1 h2 h3).trans ((w_f12_look _ a h0).trans ((w_f12_look _ a h0).trans ((sp_n h5).trans ((sp_n h0).trans ((w_f12_look _ a h0).trans ((sp_n h0).trans (w_f12_look _ a h0)))))))))))))))) ((sp_n h4).trans ((sp_n h7).trans ((sp_n h6).trans ((w_f12_goOnOrR _ a h0 h1 h2 h3).trans ((w_f12_goOnAndR _ a h0 h1 h2 h3).trans ((w_f12_compare _ a h0 h1 h2 h3).trans ((w_f12_look _ a h0).trans ((w_f12_sumR _ a h0 h1 h2 h3).trans ((w_f12_look _ a h0).trans ((w_f12_look _ a h0).trans ((sp_n h5).trans ((sp_n h0).trans ((w_f12_look _ a h0).trans ((sp_n h0).trans (w_f12_look _ a h0)))))))))))))))) ((sp_n h4).trans ((sp_n h7).trans ((sp_n h6).trans ((w_f12_look _ a h0).trans ((w_f12_sumR _ a h0 h1 h2 h3).trans ((w_f12_look _ a h0).trans ((w_f12_look _ a h0).trans ((sp_n h5).trans ((sp_n h0).trans ((w_f12_look _ a h0).trans ((sp_n h0).trans (w_f12_look _ a h0))))))))))))) ((sp_n h4).trans ((sp_n h7).trans ((sp_n h6).trans ((w_f12_sumR _ a h0 h1 h2 h3).trans ((w_f12_look _ a h0).trans ((w_f12_look _ a h0).trans ((sp_n h5).trans ((sp_n h0).trans ((w_f12_look _ a h0).trans ((sp_n h0).trans (w_f12_look _ a h0)))))))))))))) ((sp_n h0).trans ((w_f12_look _ a h0).trans ((sp_n h0).trans (w_f12_look _ a h0))))) (fr_ite (fr_ite (fr_ite (fr_ite ((sp_n h4).trans ((sp_n h7).trans ((w_f12_sumR _ a h0 h1 h2 h3).trans ((sp_n h6).trans ((sp_n h0).trans ((w_f12_look _ a h0).trans ((sp_n h6).trans ((w_f12_conditionR _ a h0 h1 h2 h3).trans ((w_f12_look _ a h0).trans ((sp_n h5).trans ((sp_n h0).trans ((w_f12_bad _ a h0).trans ((w_f12_look _ a h0).trans ((sp_n h0).trans (w_f12_look _ a h0))))))))))))))) ((w_f12_bad _ a h0).trans ((w_f12_look _ a h0).trans ((sp_n h6).trans ((w_f12_conditionR _ a h0 h1 h2 h3).trans ((w_f12_look _ a h0).trans ((sp_n h5).trans ((sp_n h0).trans ((w_f12_bad _ a h0).trans ((w_f12_look _ a h0).trans ((sp_n h0).trans (w_f12_look _ a h0)))))))))))) ((sp_n h4).trans ((sp_n h7).trans ((sp_n h6).trans ((w_f12_conditionR _ a h0 h1 h2 h3).trans ((w_f12_look _ a h0).trans ((sp_n h5).trans ((sp_n h0).trans ((w_f12_bad _ a h0).trans ((w_f12_look _ a h0).trans ((sp_n h0).trans (w_f12_look _ a h0)))))))))))) (fr_ite (fr_ite (fr_ite ((sp_n h4).trans ((sp_n h7).trans ((w_f12_sumR _ a h0 h1 h2 h3).trans ((sp_n h6).trans ((sp_n h0).trans ((w_f12_look _ a h0).trans ((sp_n h6).trans ((w_f12_conditionR _ a h0 h1 h2 h3).trans ((w_f12_look _ a h0).trans ((w_f12_look _ a h0).trans ((sp_n h5).trans ((sp_n h0).trans ((w_f12_bad _ a h0).trans ((w_f12_look _ a h0).trans ((sp_n h0).trans (w_f12_look _ a h0)))))))))))))))) ((w_f12_bad _ a h0).trans ((w_f12_look _ a h0).trans ((sp_n h6).trans ((w_f12_conditionR _ a h0 h1 h2 h3).trans ((w_f12_look _ a h0).trans ((w_f12_look _ a h0).trans ((sp_n h5).trans ((sp_n h0).trans ((w_f12_bad _ a h0).trans ((w_f12_look _ a h0).trans ((sp_n h0).trans (w_f12_look _ a h0))))))))))))) ((sp_n h4).trans ((sp_n h7).trans ((sp_n h6).trans ((w_f12_conditionR _ a h0 h1 h2 h3).trans ((w_f12_look _ a h0).trans ((w_f12_look _ a h0).trans ((sp_n h5).trans ((sp_n h0).trans ((w_f12_bad _ a h0).trans ((w_f12_look _ a h0).trans ((sp_n h0).trans (w_f12_look _ a h0))))))))))))) (fr_ite (fr_ite (fr_ite (fr_ite ((sp_n h4).trans ((sp_n h7).trans ((w_f12_sumR _ a h0 h1 h2 h3).trans ((sp_n h6).trans ((sp_n h0).trans ((w_f12_look _ a h0).trans ((sp_n h6).trans ((w_f12_goOnOrR _ a h0 h1 h2 h3).trans ((w_f12_goOnAndR _ a h0 h1 h2 h3).trans ((w_f12_compare _ a h0 h1 h2 h3).trans ((w_f12_look _ a h0).trans ((w_f12_sumR _ a h0 h1 h2 h3).trans ((w_f12_look _ a h0).trans ((w_f12_look _ a h0).trans ((sp_n h5).trans ((sp_n h0).trans ((w_f12_bad _ a h0).trans ((w_f12_look _ a h0).trans ((sp_n h0).trans (w_f12_look _ a h0)))))))))))))))))))) ((w_f12_bad _ a h0).trans ((w_f12_look _ a h0).trans ((sp_n h6).trans ((w_f12_goOnOrR _ a h0 h1 h2 h3).trans ((w_f12_goOnAndR _ a h0 h1 h2 h3).trans ((w_f12_compare _ a h0 h1 h2 h3).trans ((w_f12_look _ a h0).trans ((w_f12_sumR _ a h0 h1 h2 h3).trans ((w_f12_look _ a h0).trans ((w_f12_look _ a h0).trans ((sp_n h5).trans ((sp_n h0).trans ((w_f12_bad _ a h0).trans ((w_f12_look _ a h0).trans ((sp_n h0).trans (w_f12_look _ a h0))))))))))))))))) ((sp_n h4).trans ((sp_n h7).trans ((sp_n h6).trans ((w_f12_goOnOrR _ a h0 h1 h2 h3).trans ((w_f12_goOnAndR _ a h0 h1 h2 h3).trans ((w_f12_compare _ a h0 h1 h2 h3).trans ((w_f12_look _ a h0).trans ((w_f12_sumR _ a h0 h1 h2 h3).trans ((w_f12_look _ a h0).trans ((w_f12_look _ a h0).trans ((sp_n h5).trans ((sp_n h0).trans ((w_f12_bad _ a h0).trans ((w_f12_look _ a h0).trans ((sp_n h0).trans (w_f12_look _ a h0))))))))))))))))) ((sp_n h4).trans ((sp_n h7).trans ((sp_n h6).trans ((w_f12_look _ a h0).trans ((w_f12_sumR _ a h0 h1 h2 h3).trans ((w_f12_look _ a h0).trans ((w_f12_look _ a h0).trans ((sp_n h5).trans ((sp_n h0).trans ((w_f12_bad _ a h0).trans ((w_f12_look _ a h0).trans ((sp_n h0).trans (w_f12_look _ a h0)))))))))))))) ((sp_n h4).trans ((sp_n h7).trans ((sp_n h6).trans ((w_f12_sumR _ a h0 h1 h2 h3).trans ((w_f12_look _ a h0).trans ((w_f12_look _ a h0).trans ((sp_n h5).trans ((sp_n h0).trans ((w_f12_bad _ a h0).trans ((w_f12_look _ a h0).trans ((sp_n h0).trans (w_f12_look _ a h0))))))))))))))) ((sp_n h0).trans ((w_f12_bad _ a h0).trans ((w_f12_look _ a h0).trans ((sp_n h0).trans (w_f12_look _ a h0))))))) (fr_ite (fr_ite (fr_ite (fr_ite ((sp_n h4).trans ((sp_n h7).trans ((w_f12_sumR _ a h0 h1 h2 h3).trans ((sp_n h6).trans ((sp_n h0).trans ((w_f12_look _ a h0).trans ((sp_n h6).trans ((w_f12_conditionR _ a h0 h1 h2 h3).trans ((w_f12_look _ a h0).trans ((sp_n h5).trans ((sp_n h0).trans ((sp_n h0).trans (w_f12_look _ a h0))))))))))))) ((w_f12_bad _ a h0).trans ((w_f12_look _ a h0).trans ((sp_n h6).trans ((w_f12_conditionR _ a h0 h1 h2 h3).trans ((w_f12_look _ a h0).trans ((sp_n h5).trans ((sp_n h0).trans ((sp_n h0).trans (w_f12_look _ a h0)))))))))) ((sp_n h4).trans ((sp_n h7).trans ((sp_n h6).trans ((w_f12_conditionR _ a h0 h1 h2 h3).trans ((w_f12_look _ a h0).trans ((sp_n h5).trans ((sp_n h0).trans ((sp_n h0).trans (w_f12_look _ a h0)))))))))) (fr_ite (fr_ite (fr_ite ((sp_n h4).trans ((sp_n h7).trans ((w_f12_sumR _ a h0 h1 h2 h3).trans ((sp_n h6).trans ((sp_n h0).trans ((w_f12_look _ a h0).trans ((sp_n h6).trans ((w_f12_conditionR _ a h0 h1 h2 h3).trans ((w_f12_look _ a h0).trans ((w_f12_look _ a h0).trans ((sp_n h5).trans ((sp_n h0).trans ((sp_n h0).trans (w_f12_look _ a h0)))))))))))))) ((w_f12_bad _ a h0).trans ((w_f12_look _ a h0).trans ((sp_n h6).trans ((w_f12_conditionR _ a h0 h1 h2 h3).trans ((w_f12_look _ a h0).trans ((w_f12_look _ a h0).trans ((sp_n h5).trans ((sp_n h0).trans ((sp_n h0).trans (w_f12_look _ a h0))))))))))) ((sp_n h4).trans ((sp_n h7).trans ((sp_n h6).trans ((w_f12_conditionR _ a h0 h1 h2 h3).trans ((w_f12_look _ a h0).trans ((w_f12_look _ a h0).trans ((sp_n h5).trans ((sp_n h0).trans ((sp_n h0).trans (w_f12_look _ a h0))))))))))) (fr_ite (fr_ite (fr_ite (fr_ite ((sp_n h4).trans ((sp_n h7).trans ((w_f12_sumR _ a h0 h1 h2 h3).trans ((sp_n h6).trans ((sp_n h0).trans ((w_f12_look _ a h0).trans ((sp_n h6).trans ((w_f12_goOnOrR _ a h0 h1 h2 h3).trans ((w_f12_goOnAndR _ a h0 h1 h2 h3).trans ((w_f12_compare _ a h0 h1 h2 h3).trans ((w_f12_look _ a h0).trans ((w_f12_sumR _ a h0 h1 h2 h3).trans ((w_f12_look _ a h0).trans ((w_f12_look _ a h0).trans ((sp_n h5).trans ((sp_n h0).trans ((sp_n h0).trans (w_f12_look _ a h0)))))))))))))))))) ((w_f12_bad _ a h0).trans ((w_f12_look _ a h0).trans ((sp_n h6).trans ((w_f12_goOnOrR _ a h0 h1 h2 h3).trans ((w_f12_goOnAndR _ a h0 h1 h2 h3).trans ((w_f12_compare _ a h0 h1 h2 h3).trans ((w_f12_look _ a h0).trans ((w_f12_sumR _ a h0 h1 h2 h3).trans ((w_f12_look _ a h0).trans ((w_f12_look _ a h0).trans ((sp_n h5).trans ((sp_n h0).trans ((sp_n h0).trans (w_f12_look _ a h0))))))))))))))) ((sp_n h4).trans ((sp_n h7).trans ((sp_n h6).trans ((w_f12_goOnOrR _ a h0 h1 h2 h3).trans ((w_f12_goOnAndR _ a h0 h1 h2 h3).trans ((w_f12_compare _ a h0 h1 h2 h3).trans ((w_f12_look _ a h0).trans ((w_f12_sumR _ a h0 h1 h2 h3).trans ((w_f12_look _ a h0).trans ((w_f12_look _ a h0).trans ((sp_n h5).trans ((sp_n h0).trans ((sp_n h0).trans (w_f12_look _ a h0))))))))))))))) ((sp_n h4).trans ((sp_n h7).trans ((sp_n h6).trans ((w_f12_look _ a h0).trans ((w_f12_sumR _ a h0 h1 h2 h3).trans ((w_f12_look _ a h0).trans ((w_f12_look _ a h0).trans ((sp_n h5).trans ((sp_n h0).trans ((sp_n h0).trans (w_f12_look _ a h0)))))))))))) ((sp_n h4).trans ((sp_n h7).trans ((sp_n h6).trans ((w_f12_sumR _ a h0 h1 h2 h3).trans ((w_f12_look _ a h0).trans ((w_f12_look _ a h0).trans ((sp_n h5).trans ((sp_n h0).trans ((sp_n h0).trans (w_f12_look _ a h0))))))))))))) ((sp_n h0).trans ((sp_n h0).trans (w_f12_look _ a h0))))) (fr_ite (fr_ite (fr_ite (fr_ite (fr_ite (fr_ite ((sp_n h4).trans ((sp_n h7).trans ((w_f12_sumR _ a h0 h1 h2 h3).trans ((sp_n h6).trans ((sp_n h0).trans ((w_f12_look _ a h0).trans ((sp_n h6).trans ((w_f12_conditionR _ a h0 h1 h2 h3).trans ((w_f12_look _ a h0).trans ((sp_n h5).trans ((sp_n h0).trans ((w_f12_look _ a h0).trans ((sp_n h0).trans ((w_f12_bad _ a h0).trans (w_f12_look _ a h0))))))))))))))) ((w_f12_bad _ a h0).trans ((w_f12_look _ a h0).trans ((sp_n h6).trans ((w_f12_conditionR _ a h0 h1 h2 h3).trans ((w_f12_look _ a h0).trans ((sp_n h5).trans ((sp_n h0).trans ((w_f12_look _ a h0).trans ((sp_n h0).trans ((w_f12_bad _ a h0).trans (w_f12_look _ a h0)))))))))))) ((sp_n h4).trans ((sp_n h7).trans ((sp_n h6).trans ((w_f12_conditionR _ a h0 h1 h2 h3).trans ((w_f12_look _ a h0).trans ((sp_n h5).trans ((sp_n h0).trans ((w_f12_look _ a h0).trans ((sp_n h0).trans ((w_f12_bad _ a h0).trans (w_f12_look _ a h0)))))))))))) (fr_ite (fr_ite (fr_ite ((sp_n h4).trans ((sp_n h7).trans ((w_f12_sumR _ a h0 h1 h2 h3).trans ((sp_n h6).trans ((sp_n h0).trans ((w_f12_look _ a h0).trans ((sp_n h6).trans ((w_f12_conditionR _ a h0 h1 h2 h3).trans ((w_f12_look _ a h0).trans ((w_f12_look _ a h0).trans ((sp_n h5).trans ((sp_n h0).trans ((w_f12_look _ a h0).trans ((sp_n h0).trans ((w_f12_bad _ a h0).trans (w_f12_look _ a h0)))))))))))))))) ((w_f12_bad _ a h0).trans ((w_f12_look _ a h0).trans ((sp_n h6).trans ((w_f12_conditionR _ a h0 h1 h2 h3).trans ((w_f12_look _ a h0).trans ((w_f12_look _ a h0).trans ((sp_n h5).trans ((sp_n h0).trans ((w_f12_look _ a h0).trans ((sp_n h0).trans ((w_f12_bad _ a h0).trans (w_f12_look _ a h0))))))))))))) ((sp_n h4).trans ((sp_n h7).trans ((sp_n h6).trans ((w_f12_conditionR _ a h0 h1 h2 h3).trans ((w_f12_look _ a h0).trans ((w_f12_look _ a h0).trans ((sp_n h5).trans ((sp_n h0).trans ((w_f12_look _ a h0).trans ((sp_n h0).trans ((w_f12_bad _ a h0).trans (w_f12_look _ a h0))))))))))))) (fr_ite (fr_ite (fr_ite (fr_ite ((sp_n h4).trans ((sp_n h7).trans ((w_f12_sumR _ a h0 h1 h2 h3).trans ((sp_n h6).trans ((sp_n h0).trans ((w_f12_look _ a h0).trans ((sp_n h6).trans ((w_f12_goOnOrR _ a h0 h1 h2 h3).trans ((w_f12_goOnAndR _ a h0 h1 h2 h3).trans ((w_f12_compare _ a h0 h1 h2 h3).trans ((w_f12_look _ a h0).trans ((w_f12_sumR _ a h0 h1 h2 h3).trans ((w_f12_look _ a h0).trans ((w_f12_look _ a h0).trans ((sp_n h5).trans ((sp_n h0).trans ((w_f12_look _ a h0).trans ((sp_n h0).trans ((w_f12_bad _ a h0).trans (w_f12_look _ a h0)))))))))))))))))))) ((w_f12_bad _ a h0).trans ((w_f12_look _ a h0).trans ((sp_n h6).trans ((w_f12_goOnOrR _ a h0 h1 h2 h3).trans ((w_f12_goOnAndR _ a h0 h1 h2 h3).trans ((w_f12_compare _ a h0 h1 h2 h3).trans ((w_f12_look _ a h0).trans ((w_f12_sumR _ a h0 h1 h2 h3).trans ((w_f12_look _ a h0).trans ((w_f12_look _ a h0).trans ((sp_n h5).trans ((sp_n h0).trans ((w_f12_look _ a h0).trans ((sp_n h0).trans ((w_f12_bad _ a h0).trans (w_f12_look _ a h0))))))))))))))))) ((sp_n h4).trans ((sp_n h7).trans ((sp_n h6).trans ((w_f12_goOnOrR _ a h0 h1 h2 h3).trans ((w_f12_goOnAndR _ a h0 h1 h2 h3).trans ((w_f12_compare _ a h0 h1 h2 h3).trans ((w_f12_look _ a h0).trans ((w_f12_sumR _ a h0 h1 h2 h3).trans ((w_f12_look _ a h0).trans ((w_f12_look _ a h0).trans ((sp_n h5).trans ((sp_n h0).trans ((w_f12_look _ a h0).trans ((sp_n h0).trans ((w_f12_bad _ a h0).trans (w_f12_look _ a h0))))))))))))))))) ((sp_n h4).trans ((sp_n h7).trans ((sp_n h6).trans ((w_f12_look _ a h0).trans ((w_f12_sumR _ a h0 h1 h2 h3).trans ((w_f12_look _ a h0).trans ((w_f12_look _ a h0).trans ((sp_n h5).trans ((sp_n h0).trans ((w_f12_look _ a h0).trans ((sp_n h0).trans ((w_f12_bad _ a h0).trans (w_f12_look _ a h0)))))))))))))) ((sp_n h4).trans ((sp_n h7).trans ((sp_n h6).trans ((w_f12_sumR _ a h0 h1 h2 h3).trans ((w_f12_look _ a h0).trans ((w_f12_look _ a h0).trans ((sp_n h5).trans ((sp_n h0).trans ((w_f12_look _ a h0).trans ((sp_n h0).trans ((w_f12_bad _ a h0).trans (w_f12_look _ a h0))))))))))))))) ((sp_n h0).trans ((w_f12_look _ a h0).trans ((sp_n h0).trans ((w_f12_bad _ a h0).trans (w_f12_look _ a h0)))))) (fr_ite (fr_ite (fr_ite (fr_ite ((sp_n h4).trans ((sp_n h7).trans ((w_f12_sumR _ a h0 h1 h2 h3).trans ((sp_n h6).trans ((sp_n h0).trans ((w_f12_look _ a h0).trans ((sp_n h6).trans ((w_f12_conditionR _ a h0 h1 h2 h3).trans ((w_f12_look _ a h0).trans ((sp_n h5).trans ((sp_n h0).trans ((w_f12_bad _ a h0).trans ((w_f12_look _ a h0).trans ((sp_n h0).trans ((w_f12_bad _ a h0).trans (w_f12_look _ a h0)))))))))))))))) ((w_f12_bad _ a h0).trans ((w_f12_look _ a h0).trans ((sp_n h6).trans ((w_f12_conditionR _ a h0 h1 h2 h3).trans ((w_f12_look _ a h0).trans ((sp_n h5).trans ((sp_n h0).trans ((w_f12_bad _ a h0).trans ((w_f12_look _ a h0).trans ((sp_n h0).trans ((w_f12_bad _ a h0).trans (w_f12_look _ a h0))))))))))))) ((sp_n h4).trans ((sp_n h7).trans ((sp_n h6).trans ((w_f12_conditionR _ a h0 h1 h2 h3).trans ((w_f12_look _ a h0).trans ((sp_n h5).trans ((sp_n h0).trans ((w_f12_bad _ a h0).trans ((w_f12_look _ a h0).trans ((sp_n h0).trans ((w_f12_bad _ a h0).trans (w_f12_look _ a h0))))))))))))) (fr_ite (fr_ite (fr_ite ((sp_n h4).trans ((sp_n h7).trans ((w_f12_sumR _ a h0 h1 h2 h3).trans ((sp_n h6).trans ((sp_n h0).trans ((w_f12_look _ a h0).trans ((sp_n h6).trans ((w_f12_conditionR _ a h0 h1 h2 h3).trans ((w_f12_look _ a h0).trans ((w_f12_look _ a h0).trans ((sp_n h5).trans ((sp_n h0).trans ((w_f12_bad _ a h0).trans ((w_f12_look _ a h0).trans ((sp_n h0).trans ((w_f12_bad _ a h0).trans (w_f12_look _ a h0))))))))))))))))) ((w_f12_bad _ a h0).trans ((w_f12_look _ a h0).trans ((sp_n h6).trans ((w_f12_conditionR _ a h0 h1 h2 h3).trans ((w_f12_look _ a h0).trans ((w_f12_look _ a h0).trans ((sp_n h5).trans ((sp_n h0).trans ((w_f12_bad _ a h0).trans ((w_f12_look _ a h0).trans ((sp_n h0).trans ((w_f12_bad _ a h0).trans (w_f12_look _ a h0)))))))))))))) ((sp_n h4).trans ((sp_n h7).trans ((sp_n h6).trans ((w_f12_conditionR _ a h0 h1 h2 h3).trans ((w_f12_look _ a h0).trans ((w_f12_look _ a h0).trans ((sp_n h5).trans ((sp_n h0).trans ((w_f12_bad _ a h0).trans ((w_f12_look _ a h0).trans ((sp_n h0).trans ((w_f12_bad _ a h0).trans (w_f12_look _ a h0)))))))))))))) (fr_ite (fr_ite (fr_ite (fr_ite ((sp_n h4).trans ((sp_n h7).trans ((w_f12_sumR _ a h0 h1 h2 h3).trans ((sp_n h6).trans ((sp_n h0).trans ((w_f12_look _ a h0).trans ((sp_n h6).trans ((w_f12_goOnOrR _ a h0 h1 h2 h3).trans ((w_f12_goOnAndR _ a h0 h1 h2 h3).trans ((w_f12_compare _ a h0 h1 h2 h3).trans ((w_f12_look _ a h0).trans ((w_f12_sumR _ a h0 h1 h2 h3).trans ((w_f12_look _ a h0).trans ((w_f12_look _ a h0).trans ((sp_n h5).trans ((sp_n h0).trans ((w_f12_bad _ a h0).trans ((w_f12_look _ a h0).trans ((sp_n h0).trans ((w_f12_bad _ a h0).trans (w_f12_look _ a h0))))))))))))))))))))) ((w_f12_bad _ a h0).trans ((w_f12_look _ a h0).trans ((sp_n h6).trans ((w_f12_goOnOrR _ a h0 h1 h2 h3).trans ((w_f12_goOnAndR _ a h0 h1 h2 h3).trans ((w_f12_compare _ a h0 h1 h2 h3).trans ((w_f12_look _ a h0).trans ((w_f12_sumR _ a h0 h1 h2 h3).trans ((w_f12_look _ a h0).trans ((w_f12_look _ a h0).trans ((sp_n h5).trans ((sp_n h0).trans ((w_f12_bad _ a h0).trans ((w_f12_look _ a h0).trans ((sp_n h0).trans ((w_f12_bad _ a h0).trans (w_f12_look _ a h0)))))))))))))))))) ((sp_n h4).trans ((sp_n h7).trans ((sp_n h6).trans ((w_f12_goOnOrR _ a h0 h1 h2 h3).trans ((w_f12_goOnAndR _ a h0 h1 h2 h3).trans ((w_f12_compare _ a h0 h1 h2 h3).trans ((w_f12_look _ a h0).trans ((w_f12_sumR _ a h0 h1 h2 h3).trans ((w_f12_look _ a h0).trans ((w_f12_look _ a h0).trans ((sp_n h5).trans ((sp_n h0).trans ((w_f12_bad _ a h0).trans ((w_f12_look _ a h0).trans ((sp_n h0).trans ((w_f12_bad _ a h0).trans (w_f12_look _ a h0)))))))))))))))))) ((sp_n h4).trans ((sp_n h7).trans ((sp_n h6).trans ((w_f12_look _ a h0).trans ((w_f12_sumR _ a h0 h1 h2 h3).trans ((w_f12_look _ a h0).trans ((w_f12_look _ a h0).trans ((sp_n h5).trans ((sp_n h0).trans ((w_f12_bad _ a h0).trans ((w_f12_look _ a h0).trans ((sp_n h0).trans ((w_f12_bad _ a h0).trans (w_f12_look _ a h0))))))))))))))) ((sp_n h4).trans ((sp_n h7).trans ((sp_n h6).trans ((w_f12_sumR _ a h0 h1 h2 h3).trans ((w_f12_look _ a h0).trans ((w_f12_look _ a h0).trans ((sp_n h5).trans ((sp_n h0).trans ((w_f12_bad _ a h0).trans ((w_f12_look _ a h0).trans ((sp_n h0).trans ((w_f12_bad _ a h0).trans (w_f12_look _ a h0)))))))))))))))) ((sp_n h0).trans ((w_f12_bad _ a h0).trans ((w_f12_look _ a h0).trans ((sp_n h0).trans ((w_f12_bad _ a h0).trans (w_f12_look _ a h0)))))))) (fr_ite (fr_ite (fr_ite (fr_ite ((sp_n h4).trans ((sp_n h7).trans ((w_f12_sumR _ a h0 h1 h2 h3).trans ((sp_n h6).trans ((sp_n h0).trans ((w_f12_look _ a h0).trans ((sp_n h6).trans ((w_f12_conditionR _ a h0 h1 h2 h3).trans ((w_f12_look _ a h0).trans ((sp_n h5).trans ((sp_n h0).trans ((sp_n h0).trans ((w_f12_bad _ a h0).trans (w_f12_look _ a h0)))))))))))))) ((w_f12_bad _ a h0).trans ((w_f12_look _ a h0).trans ((sp_n h6).trans ((w_f12_conditionR _ a h0 h1 h2 h3).trans ((w_f12_look _ a h0).trans ((sp_n h5).trans ((sp_n h0).trans ((sp_n h0).trans ((w_f12_bad _ a h0).trans (w_f12_look _ a h0))))))))))) ((sp_n h4).trans ((sp_n h7).trans ((sp_n h6).trans ((w_f12_conditionR _ a h0 h1 h2 h3).trans ((w_f12_look _ a h0).trans ((sp_n h5).trans ((sp_n h0).trans ((sp_n h0).trans ((w_f12_bad _ a h0).trans (w_f12_look _ a h0))))))))))) (fr_ite (fr_ite (fr_ite ((sp_n h4).trans ((sp_n h7).trans ((w_f12_sumR _ a h0 h1 h2 h3).trans ((sp_n h6).trans ((sp_n h0).trans ((w_f12_look _ a h0).trans ((sp_n h6).trans ((w_f12_conditionR _ a h0 h1 h2 h3).trans ((w_f12_look _ a h0).trans ((w_f12_look _ a h0).trans ((sp_n h5).trans ((sp_n h0).trans ((sp_n h0).trans ((w_f12_bad _ a h0).trans (w_f12_look _ a h0))))))))))))))) ((w_f12_bad _ a h0).trans ((w_f12_look _ a h0).trans ((sp_n h6).trans ((w_f12_conditionR _ a h0 h1 h2 h3).trans ((w_f12_look _ a h0).trans ((w_f12_look _ a h0).trans ((sp_n h5).trans ((sp_n h0).trans ((sp_n h0).trans ((w_f12_bad _ a h0).trans (w_f12_look _ a h0)))))))))))) ((sp_n h4).trans ((sp_n h7).trans ((sp_n h6).trans ((w_f12_conditionR _ a h0 h1 h2 h3).trans ((w_f12_look _ a h0).trans ((w_f12_look _ a h0).trans ((sp_n h5).trans ((sp_n h0).trans ((sp_n h0).trans ((w_f12_bad _ a h0).trans (w_f12_look _ a h0)))))))))))) (fr_ite (fr_ite (fr_ite (fr_ite ((sp_n h4).trans ((sp_n h7).trans ((w_f12_sumR _ a h0 h1 h2 h3).trans ((sp_n h6).trans ((sp_n h0).trans ((w_f12_look _ a h0).trans ((sp_n h6).trans ((w_f12_goOnOrR _ a h0 h1 h2 h3).trans ((w_f12_goOnAndR _ a h0 h1 h2 h3).trans ((w_f12_compare _ a h0 h1 h2 h3).trans ((w_f12_look _ a h0).trans ((w_f12_sumR _ a h0 h1 h2 h3).trans ((w_f12_look _ a h0).trans ((w_f12_look _ a h0).trans ((sp_n h5).trans ((sp_n h0).trans ((sp_n h0).trans ((w_f12_bad _ a h0).trans (w_f12_look _ a h0))))))))))))))))))) ((w_f12_bad _ a h0).trans ((w_f12_look _ a h0).trans ((sp_n h6).trans ((w_f12_goOnOrR _ a h0 h1 h2 h3).trans ((w_f12_goOnAndR _ a h0 h1 h2 h3).trans ((w_f12_compare _ a h0 h1 h2 h3).trans ((w_f12_look _ a h0).trans ((w_f12_sumR _ a h0 h1 h2 h3).trans ((w_f12_look _ a h0).trans ((w_f12_look _ a h0).trans ((sp_n h5).trans ((sp_n h0).trans ((sp_n h0).trans ((w_f12_bad _ a h0).trans (w_f12_look _ a h0)))))))))))))))) ((sp_n h4).trans ((sp_n h7).trans ((sp_n h6).trans ((w_f12_goOnOrR _ a h0 h1 h2 h3).trans ((w_f12_goOnAndR _ a h0 h1 h2 h3).trans ((w_f12_compare _ a h0 h1 h2 h3).trans ((w_f12_look _ a h0).trans ((w_f12_sumR _ a h0 h1 h2 h3).trans ((w_f12_look _ a h0).trans ((w_f12_look _ a h0).trans ((sp_n h5).trans ((sp_n h0).trans ((sp_n h0).trans ((w_f12_bad _ a h0).trans (w_f12_look _ a h0)))))))))))))))) ((sp_n h4).trans ((sp_n h7).trans ((sp_n h6).trans ((w_f12_look _ a h0).trans ((w_f12_sumR _ a h0 h1 h2 h3).trans ((w_f12_look _ a h0).trans ((w_f12_look _ a h0).trans ((sp_n h5).trans ((sp_n h0).trans ((sp_n h0).trans ((w_f12_bad _ a h0).trans (w_f12_look _ a h0))))))))))))) ((sp_n h4).trans ((sp_n h7).trans ((sp_n h6).trans ((w_f12_sumR _ a h0 h1 h2 h3).trans ((w_f12_look _ a h0).trans ((w_f12_look _ a h0).trans ((sp_n h5).trans ((sp_n h0).trans ((sp_n h0).trans ((w_f12_bad _ a h0).trans (w_f12_look _ a h0)))))))))))))) ((sp_n h0).trans ((sp_n h0).trans ((w_f12_bad _ a h0).trans (w_f12_look _ a h0))))))) (fr_ite (fr_ite (fr_ite (fr_ite (fr_ite (fr_ite ((sp_n h4).trans ((sp_n h7).trans ((w_f12_sumR _ a h0 h1 h2 h3).trans ((sp_n h6).trans ((sp_n h0).trans ((w_f12_look _ a h0).trans ((sp_n h6).trans ((w_f12_conditionR _ a h0 h1 h2 h3).trans ((w_f12_look _ a h0).trans ((sp_n h5).trans ((sp_n h0).trans ((w_f12_look _ a h0).trans (sp_n h0))))))))))))) ((w_f12_bad _ a h0).trans ((w_f12_look _ a h0).trans ((sp_n h6).trans ((w_f12_conditionR _ a h0 h1 h2 h3).trans ((w_f12_look _ a h0).trans ((sp_n h5).trans ((sp_n h0).trans ((w_f12_look _ a h0).trans (sp_n h0)))))))))) ((sp_n h4).trans ((sp_n h7).trans ((sp_n h6).trans ((w_f12_conditionR _ a h0 h1 h2 h3).trans ((w_f12_look _ a h0).trans ((sp_n h5).trans ((sp_n h0).trans ((w_f12_look _ a h0).trans (sp_n h0)))))))))) (fr_ite (fr_ite (fr_ite ((sp_n h4).trans ((sp_n h7).trans ((w_f12_sumR _ a h0 h1 h2 h3).trans ((sp_n h6).trans ((sp_n h0).trans ((w_f12_look _ a h0).trans ((sp_n h6).trans ((w_f12_conditionR _ a h0 h1 h2 h3).trans ((w_f12_look _ a h0).trans ((w_f12_look _ a h0).trans ((sp_n h5).trans ((sp_n h0).trans ((w_f12_look _ a h0).trans (sp_n h0)))))))))))))) ((w_f12_bad _ a h0).trans ((w_f12_look _ a h0).trans ((sp_n h6).trans ((w_f12_conditionR _ a h0 h1 h2 h3).trans ((w_f12_look _ a h0).trans ((w_f12_look _ a h0).trans ((sp_n h5).trans ((sp_n h0).trans ((w_f12_look _ a h0).trans (sp_n h0))))))))))) ((sp_n h4).trans ((sp_n h7).trans ((sp_n h6).trans ((w_f12_conditionR _ a h0 h1 h2 h3).trans ((w_f12_look _ a h0).trans ((w_f12_look _ a h0).trans ((sp_n h5).trans ((sp_n h0).trans ((w_f12_look _ a h0).trans (sp_n h0))))))))))) (fr_ite (fr_ite (fr_ite (fr_ite ((sp_n h4).trans ((sp_n h7).trans ((w_f12_sumR _ a h0 h1 h2 h3).trans ((sp_n h6).trans ((sp_n h0).trans ((w_f12_look _ a h0).trans ((sp_n h6).trans ((w_f12_goOnOrR _ a h0 h1 h2 h3).trans ((w_f12_goOnAndR _ a h0 h1 h2 h3).trans ((w_f12_compare _ a h0 h1 h2 h3).trans ((w_f12_look _ a h0).trans ((w_f12_sumR _ a h0 h1 h2 h3).trans ((w_f12_look _ a h0).trans ((w_f12_look _ a h0).trans ((sp_n h5).trans ((sp_n h0).trans ((w_f12_look _ a h0).trans (sp_n h0)))))))))))))))))) ((w_f12_bad _ a h0).trans ((w_f12_look _ a h0).trans ((sp_n h6).trans ((w_f12_goOnOrR _ a h0 h1 h2 h3).trans ((w_f12_goOnAndR _ a h0 h1 h2 h3).trans ((w_f12_compare _ a h0 h1 h2 h3).trans ((w_f12_look _ a h0).trans ((w_f12_sumR _ a h0 h1 h2 h3).trans ((w_f12_look _ a h0).trans ((w_f12_look _ a h0).trans ((sp_n h5).trans ((sp_n h0).trans ((w_f12_look _ a h0).trans (sp_n h0))))))))))))))) ((sp_n h4).trans ((sp_n h7).trans ((sp_n h6).trans ((w_f12_goOnOrR _ a h0 h1 h2 h3).trans ((w_f12_goOnAndR _ a h0 h1 h2 h3).trans ((w_f12_compare _ a h0 h1 h2 h3).trans ((w_f12_look _ a h0).trans ((w_f12_sumR _ a h0 h1 h2 h3).trans ((w_f12_look _ a h0).trans ((w_f12_look _ a h0).trans ((sp_n h5).trans ((sp_n h0).trans ((w_f12_look _ a h0).trans (sp_n h0))))))))))))))) ((sp_n h4).trans ((sp_n h7).trans ((sp_n h6).trans ((w_f12_look _ a h0).trans ((w_f12_sumR _ a h0 h1 h2 h3).trans ((w_f12_look _ a h0).trans ((w_f12_look _ a h0).trans ((sp_n h5).trans ((sp_n h0).trans ((w_f12_look _ a h0).trans (sp_n h0)))))))))))) ((sp_n h4).trans ((sp_n h7).trans ((sp_n h6).trans ((w_f12_sumR _ a h0 h1 h2 h3).trans ((w_f12_look _ a h0).trans ((w_f12_look _ a h0).trans ((sp_n h5).trans ((sp_n h0).trans ((w_f12_look _ a h0).trans (sp_n h0))))))))))))) ((sp_n h0).trans ((w_f12_look _ a h0).trans (sp_n h0)))) (fr_ite (fr_ite (fr_ite (fr_ite ((sp_n h4).trans ((sp_n h7).trans ((w_f12_sumR _ a h0 h1 h2 h3).trans ((sp_n h6).trans ((sp_n h0).trans ((w_f12_look _ a h0).trans ((sp_n h6).trans ((w_f12_conditionR _ a h0 h1 h2 h3).trans ((w_f12_look _ a h0).trans ((sp_n h5).trans ((sp_n h0).trans ((w_f12_bad _ a h0).trans ((w_f12_look _ a h0).trans (sp_n h0)))))))))))))) ((w_f12_bad _ a h0).trans ((w_f12_look _ a h0).trans ((sp_n h6).trans ((w_f12_conditionR _ a h0 h1 h2 h3).trans ((w_f12_look _ a h0).trans ((sp_n h5).trans ((sp_n h0).trans ((w_f12_bad _ a h0).trans ((w_f12_look _ a h0).trans (sp_n h0))))))))))) ((sp_n h4).trans ((sp_n h7).trans ((sp_n h6).trans ((w_f12_conditionR _ a h0 h1 h2 h3).trans ((w_f12_look _ a h0).trans ((sp_n h5).trans ((sp_n h0).trans ((w_f12_bad _ a h0).trans ((w_f12_look _ a h0).trans (sp_n h0))))))))))) (fr_ite (fr_ite (fr_ite ((sp_n h4).trans ((sp_n h7).trans ((w_f12_sumR _ a h0 h1 h2 h3).trans ((sp_n h6).trans ((sp_n h0).trans ((w_f12_look _ a h0).trans ((sp_n h6).trans ((w_f12_conditionR _ a h0 h1 h2 h3).trans ((w_f12_look _ a h0).trans ((w_f12_look _ a h0).trans ((sp_n h5).trans ((sp_n h0).trans ((w_f12_bad _ a h0).trans ((w_f12_look _ a h0).trans (sp_n h0))))))))))))))) ((w_f12_bad _ a h0).trans ((w_f12_look _ a h0).trans ((sp_n h6).trans ((w_f12_conditionR _ a h0 h1 h2 h3).trans ((w_f12_look _ a h0).trans ((w_f12_look _ a h0).trans ((sp_n h5).trans ((sp_n h0).trans ((w_f12_bad _ a h0).trans ((w_f12_look _ a h0).trans (sp_n h0)))))))))))) ((sp_n h4).trans ((sp_n h7).trans ((sp_n h6).trans ((w_f12_conditionR _ a h0 h1 h2 h3).trans ((w_f12_look _ a h0).trans ((w_f12_look _ a h0).trans ((sp_n h5).trans ((sp_n h0).trans ((w_f12_bad _ a h0).trans ((w_f12_look _ a h0).trans (sp_n h0)))))))))))) (fr_ite (fr_ite (fr_ite (fr_ite ((sp_n h4).trans ((sp_n h7).trans ((w_f12_sumR _ a h0 h1 h2 h3).trans ((sp_n h6).trans ((sp_n h0).trans ((w_f12_look _ a h0).trans ((sp_n h6).trans ((w_f12_goOnOrR _ a h0 h1 h2 h3).trans ((w_f12_goOnAndR _ a h0 h1 h2 h3).trans ((w_f12_compare _ a h0 h1 h2 h3).trans ((w_f12_look _ a h0).trans ((w_f12_sumR _ a h0 h1 h2 h3).trans ((w_f12_look _ a h0).trans ((w_f12_look _ a h0).trans ((sp_n h5).trans ((sp_n h0).trans ((w_f12_bad _ a h0).trans ((w_f12_look _ a h0).trans (sp_n h0))))))))))))))))))) ((w_f12_bad _ a h0).trans ((w_f12_look _ a h0).trans ((sp_n h6).trans ((w_f12_goOnOrR _ a h0 h1 h2 h3).trans ((w_f12_goOnAndR _ a h0 h1 h2 h3).trans ((w_f12_compare _ a h0 h1 h2 h3).trans ((w_f12_look _ a h0).trans ((w_f12_sumR _ a h0 h1 h2 h3).trans ((w_f12_look _ a h0).trans ((w_f12_look _ a h0).trans ((sp_n h5).trans ((sp_n h0).trans ((w_f12_bad _ a h0).trans ((w_f12_look _ a h0).trans (sp_n h0)))))))))))))))) ((sp_n h4).trans ((sp_n h7).trans ((sp_n h6).trans ((w_f12_goOnOrR _ a h0 h1 h2 h3).trans ((w_f12_goOnAndR _ a h0 h1 h2 h3).trans ((w_f12_compare _ a h0 h1 h2 h3).trans ((w_f12_look _ a h0).trans ((w_f12_sumR _ a h0 h1 h2 h3).trans ((w_f12_look _ a h0).trans ((w_f12_look _ a h0).trans ((sp_n h5).trans ((sp_n h0).trans ((w_f12_bad _ a h0).trans ((w_f12_look _ a h0).trans (sp_n h0)))))))))))))))) ((sp_n h4).trans ((sp_n h7).trans ((sp_n h6).trans ((w_f12_look _ a h0).trans ((w_f12_sumR _ a h0 h1 h2 h3).trans ((w_f12_look _ a h0).trans ((w_f12_look _ a h0).trans ((sp_n h5).trans ((sp_n h0).trans ((w_f12_bad _ a h0).trans ((w_f12_look _ a h0).trans (sp_n h0))))))))))))) ((sp_n h4).trans ((sp_n h7).trans ((sp_n h6).trans ((w_f12_sumR _ a h0 h1 h2 h3).trans ((w_f12_look _ a h0).trans ((w_f12_look _ a h0).trans ((sp_n h5).trans ((sp_n h0).trans ((w_f12_bad _ a h0).trans ((w_f12_look _ a h0).trans (sp_n h0)))))))))))))) ((sp_n h0).trans ((w_f12_bad _ a h0).trans ((w_f12_look _ a h0).trans (sp_n h0)))))) (fr_ite (fr_ite (fr_ite (fr_ite ((sp_n h4).trans ((sp_n h7).trans ((w_f12_sumR _ a h0 h1 h2 h3).trans ((sp_n h6).trans ((sp_n h0).trans ((w_f12_look _ a h0).trans ((sp_n h6).trans ((w_f12_conditionR _ a h0 h1 h2 h3).trans ((w_f12_look _ a h0).trans ((sp_n h5).trans ((sp_n h0).trans (sp_n h0)))))))))))) ((w_f12_bad _ a h0).trans ((w_f12_look _ a h0).trans ((sp_n h6).trans ((w_f12_conditionR _ a h0 h1 h2 h3).trans ((w_f12_look _ a h0).trans ((sp_n h5).trans ((sp_n h0).trans (sp_n h0))))))))) ((sp_n h4).trans ((sp_n h7).trans ((sp_n h6).trans ((w_f12_conditionR _ a h0 h1 h2 h3).trans ((w_f12_look _ a h0).trans ((sp_n h5).trans ((sp_n h0).trans (sp_n h0))))))))) (fr_ite (fr_ite (fr_ite ((sp_n h4).trans ((sp_n h7).trans ((w_f12_sumR _ a h0 h1 h2 h3).trans ((sp_n h6).trans ((sp_n h0).trans ((w_f12_look _ a h0).trans ((sp_n h6).trans ((w_f12_conditionR _ a h0 h1 h2 h3).trans ((w_f12_look _ a h0).trans ((w_f12_look _ a h0).trans ((sp_n h5).trans ((sp_n h0).trans (sp_n h0))))))))))))) ((w_f12_bad _ a h0).trans ((w_f12_look _ a h0).trans ((sp_n h6).trans ((w_f12_conditionR _ a h0 h1 h2 h3).trans ((w_f12_look _ a h0).trans ((w_f12_look _ a h0).trans ((sp_n h5).trans ((sp_n h0).trans (sp_n h0)))))))))) ((sp_n h4).trans ((sp_n h7).trans ((sp_n h6).trans ((w_f12_conditionR _ a h0 h1 h2 h3).trans ((w_f12_look _ a h0).trans ((w_f12_look _ a h0).trans ((sp_n h5).trans ((sp_n h0).trans (sp_n h0)))))))))) (fr_ite (fr_ite (fr_ite (fr_ite ((sp_n h4).trans ((sp_n h7).trans ((w_f12_sumR _ a h0 h1 h2 h3).trans ((sp_n h6).trans ((sp_n h0).trans ((w_f12_look _ a h0).trans ((sp_n h6).trans ((w_f12_goOnOrR _ a h0 h1 h2 h3).trans ((w_f12_goOnAndR _ a h0 h1 h2 h3).trans ((w_f12_compare _ a h0 h1 h2 h3).trans ((w_f12_look _ a h0).trans ((w_f12_sumR _ a h0 h1 h2 h3).trans ((w_f12_look _ a h0).trans ((w_f12_look _ a h0).trans ((sp_n h5).trans ((sp_n h0).trans (sp_n h0))))))))))))))))) ((w_f12_bad _ a h0).trans ((w_f12_look _ a h0).trans ((sp_n h6).trans ((w_f12_goOnOrR _ a h0 h1 h2 h3).trans ((w_f12_goOnAndR _ a h0 h1 h2 h3).trans ((w_f12_compare _ a h0 h1 h2 h3).trans ((w_f12_look _ a h0).trans ((w_f12_sumR _ a h0 h1 h2 h3).trans ((w_f12_look _ a h0).trans ((w_f12_look _ a h0).trans ((sp_n h5).trans ((sp_n h0).trans (sp_n h0)))))))))))))) ((sp_n h4).trans ((sp_n h7).trans ((sp_n h6).trans ((w_f12_goOnOrR _ a h0 h1 h2 h3).trans ((w_f12_goOnAndR _ a h0 h1 h2 h3).trans ((w_f12_compare _ a h0 h1 h2 h3).trans ((w_f12_look _ a h0).trans ((w_f12_sumR _ a h0 h1 h2 h3).trans ((w_f12_look _ a h0).trans ((w_f12_look _ a h0).trans ((sp_n h5).trans ((sp_n h0).trans (sp_n h0)))))))))))))) ((sp_n h4).trans ((sp_n h7).trans ((sp_n h6).trans ((w_f12_look _ a h0).trans ((w_f12_sumR _ a h0 h1 h2 h3).trans ((w_f12_look _ a h0).trans ((w_f12_look _ a h0).trans ((sp_n h5).trans ((sp_n h0).trans (sp_n h0))))))))))) ((sp_n h4).trans ((sp_n h7).trans ((sp_n h6).trans ((w_f12_sumR _ a h0 h1 h2 h3).trans ((w_f12_look _ a h0).trans ((w_f12_look _ a h0).trans ((sp_n h5).trans ((sp_n h0).trans (sp_n h0)))))))))))) ((sp_n h0).trans (sp_n h0)))))
set_option maxHeartbeats 4000000 in
set_option maxRecDepth 100000 in
theorem c12_clause (l : Launch) (G : GT) (σ : SI) (τ : SL) (ho : o12_clause σ) : Mc l yX12_clause cX12_clause 3 none 96 G [.ref (G.2.1 123)] σ τ (Qv G (Ev (f12_clause σ) τ)) := by
  refine m_start (by decide +kernel) (Nat.le_of_ble_eq_true rfl) rfl (fun p e s m args below meth c ls X I hl => ?_)
  have hl : lv_has ls 3 [(0, .ref (G.2.1 123))] := hl
  obtain ⟨E, hE⟩ : ∃ E, E = (f12_clause σ) := ⟨_, rfl⟩
  rw [← hE]
  unfold o12_clause at ho
  refine lv_sipush (v := 140) X.1 X.2.1 dX12_clause_0 (by decide) ?_
  refine lv_aload_n X.1 X.2.1 dX12_clause_3 rfl (lv_at hl 0 rfl) ?_
  refine g12_14 X I (k := 123) (by decide) rfl lf_X12_125 dX12_clause_4 ?_
  refine lv_imul X.1 X.2.1 dX12_clause_7 ?_
  refine lv_aload_n X.1 X.2.1 dX12_clause_8 rfl (lv_at hl 0 rfl) ?_
  refine g12_9 X I (k := 123) (by decide) rfl lf_X12_22 dX12_clause_9 ?_
  refine lv_aload_n X.1 X.2.1 dX12_clause_12 rfl (lv_at hl 0 rfl) ?_
  refine g12_14 X I (k := 123) (by decide) rfl lf_X12_125 dX12_clause_13 ?_
  have ho1 := ho.1
  have ho := ho.2
  refine r_ald X I (k := 128) (n := 5) (by decide) rfl ho1 dX12_clause_16 ?_
  refine lv_iadd X.1 X.2.1 dX12_clause_17 ?_
  refine lv_istore_n (lv' := [(1, .int _), (0, .ref _)]) X.1 X.2.1 dX12_clause_18 rfl hl (by decide) rfl (fun ls hl => ?_)
  refine lv_aload_n X.1 X.2.1 dX12_clause_19 rfl (lv_at hl 1 rfl) ?_
  refine g12_4 X I (k := 123) (by decide) rfl lf_X12_122 dX12_clause_20 ?_
  refine lv_iconst (v := (-1)) X.1 X.2.1 dX12_clause_23 (by decide) ?_
  refine lv_icmp_ne (tgt := 40) X.1 X.2.1 dX12_clause_24 (by decide) (fun c_1 => ?_) (fun c_1 => ?_)
  · skip
    have hE := ite_f hE c_1
    have ho := ite_fP ho c_1
    refine lv_aload_n X.1 X.2.1 dX12_clause_40 rfl (lv_at hl 1 rfl) ?_
    refine lv_dup X.1 X.2.1 dX12_clause_41 rfl ?_
    refine g12_3 X I (k := 123) (by decide) rfl lf_X12_115 dX12_clause_42 ?_
    refine lv_iconst (v := 1) X.1 X.2.1 dX12_clause_45 (by decide) ?_
    refine lv_iadd X.1 X.2.1 dX12_clause_46 ?_
    refine p12_3 X I (k := 123) (by decide) rfl lf_X12_115 dX12_clause_47 (fun H locs I => ?_)
    refine lv_aload_n X.1 X.2.1 dX12_clause_50 rfl (lv_at hl 1 rfl) ?_
    refine g12_4 X I (k := 123) (by decide) rfl lf_X12_122 dX12_clause_51 ?_
    refine lv_iconst (v := (-1)) X.1 X.2.1 dX12_clause_54 (by decide) ?_
    refine lv_icmp_ne (tgt := 71) X.1 X.2.1 dX12_clause_55 (by decide) (fun c_2 => ?_) (fun c_2 => ?_)
    · skip
      have hE := ite_f hE c_2
      have ho := ite_fP ho c_2
      refine lv_aload_n X.1 X.2.1 dX12_clause_71 rfl (lv_at hl 1 rfl) ?_
      refine lv_dup X.1 X.2.1 dX12_clause_72 rfl ?_
      refine g12_3 X I (k := 123) (by decide) rfl lf_X12_115 dX12_clause_73 ?_
      refine lv_iconst (v := 1) X.1 X.2.1 dX12_clause_76 (by decide) ?_
      refine lv_iadd X.1 X.2.1 dX12_clause_77 ?_
      refine p12_3 X I (k := 123) (by decide) rfl lf_X12_115 dX12_clause_78 (fun H locs I => ?_)
      refine lv_aload_n X.1 X.2.1 dX12_clause_81 rfl (lv_at hl 1 rfl) ?_
      refine g12_4 X I (k := 123) (by decide) rfl lf_X12_122 dX12_clause_82 ?_
      refine lv_iconst (v := (-1)) X.1 X.2.1 dX12_clause_85 (by decide) ?_
      refine lv_icmp_eq (tgt := 90) X.1 X.2.1 dX12_clause_86 (by decide) (fun c_3 => ?_) (fun c_3 => ?_)
      · skip
        have hE := ite_t hE c_3
        have ho := ite_tP ho c_3
        refine lv_aload_n X.1 X.2.1 dX12_clause_90 rfl (lv_at hl 1 rfl) ?_
        refine g12_10 X I (k := 123) (by decide) rfl lf_X12_25 dX12_clause_91 ?_
        refine lv_iload_n X.1 X.2.1 dX12_clause_94 rfl (lv_at hl 0 rfl) ?_
        refine lv_aload_n X.1 X.2.1 dX12_clause_95 rfl (lv_at hl 1 rfl) ?_
        refine g12_8 X I (k := 123) (by decide) rfl lf_X12_19 dX12_clause_96 ?_
        refine lv_aload_n X.1 X.2.1 dX12_clause_99 rfl (lv_at hl 1 rfl) ?_
        refine g12_14 X I (k := 123) (by decide) rfl lf_X12_125 dX12_clause_100 ?_
        have ho2 := ho.1
        have ho := ho.2
        refine r_ald X I (k := 127) (n := 5) (by decide) rfl ho2 dX12_clause_103 ?_
        have ho3 := ho.1
        have ho := ho.2
        refine r_ast X I (k := 129) (n := 700) (by decide) rfl ho3 dX12_clause_104 (fun H locs I => ?_)
        refine lv_aload_n X.1 X.2.1 dX12_clause_105 rfl (lv_at hl 1 rfl) ?_
        have ho4 := ho.1
        have ho := ho.2
        refine r_ei I (r_runV X I pk_X12_look (c12_look l G _ _ ho4) lm_X12_134 (by decide) (cl_12 rfl) rfl rfl rfl hl.1 rfl (Nat.le_of_ble_eq_true rfl) dX12_clause_106 ⟨Nat.le_of_ble_eq_true rfl, Nat.le_of_ble_eq_true rfl⟩ ⟨Nat.le_refl 0, Nat.le_refl 0⟩) (fun H locs I => ?_)
        refine lv_bipush (v := 33) X.1 X.2.1 dX12_clause_109 (by decide) ?_
        refine lv_icmp_eq (tgt := 123) X.1 X.2.1 dX12_clause_111 (by decide) (fun c_4 => ?_) (fun c_4 => ?_)
        · skip
          have hE := ite_t hE c_4
          have ho := ite_tP ho c_4
          refine lv_iconst (v := 1) X.1 X.2.1 dX12_clause_123 (by decide) ?_
          refine lv_goto (tgt := 128) X.1 X.2.1 dX12_clause_124 (by decide) ?_
          refine lv_istore_n (lv' := [(2, .int _), (1, .int _), (0, .ref _)]) X.1 X.2.1 dX12_clause_128 rfl hl (by decide) rfl (fun ls hl => ?_)
          refine lv_iload_n X.1 X.2.1 dX12_clause_129 rfl (lv_at hl 0 rfl) ?_
          refine lv_if_eq (tgt := 140) X.1 X.2.1 dX12_clause_130 (by decide) (fun c_5 => ?_) (fun c_5 => ?_)
          · exact absurd c_5 (by decide)
          · skip
            refine lv_aload_n X.1 X.2.1 dX12_clause_133 rfl (lv_at hl 2 rfl) ?_
            have ho5 := ho.1
            have ho := ho.2
            refine r_ev I (r_runV X I pk_X12_condition (c12_conditionR l G _ _ ho5) lm_X12_174 (by decide) (cl_12 rfl) rfl rfl rfl hl.1 rfl (Nat.le_of_ble_eq_true rfl) dX12_clause_134 ⟨Nat.le_of_ble_eq_true rfl, Nat.le_of_ble_eq_true rfl⟩ ⟨Nat.le_refl 0, Nat.le_refl 0⟩) (fun H locs I => ?_)
            refine lv_goto (tgt := 184) X.1 X.2.1 dX12_clause_137 (by decide) ?_
            refine lv_aload_n X.1 X.2.1 dX12_clause_184 rfl (lv_at hl 2 rfl) ?_
            refine g12_11 X I (k := 123) (by decide) rfl lf_X12_28 dX12_clause_185 ?_
            refine lv_iload_n X.1 X.2.1 dX12_clause_188 rfl (lv_at hl 1 rfl) ?_
            refine lv_aload_n X.1 X.2.1 dX12_clause_189 rfl (lv_at hl 2 rfl) ?_
            refine g12_10 X I (k := 123) (by decide) rfl lf_X12_25 dX12_clause_190 ?_
            refine lv_iload_n X.1 X.2.1 dX12_clause_193 rfl (lv_at hl 1 rfl) ?_
            have ho6 := ho.1
            have ho := ho.2
            refine r_ald X I (k := 129) (n := 700) (by decide) rfl ho6 dX12_clause_194 ?_
            have ho7 := ho.1
            have ho := ho.2
            refine r_ast X I (k := 130) (n := 700) (by decide) rfl ho7 dX12_clause_195 (fun H locs I => ?_)
            refine lv_iload_n X.1 X.2.1 dX12_clause_196 rfl (lv_at hl 0 rfl) ?_
            refine lv_if_eq (tgt := 251) X.1 X.2.1 dX12_clause_197 (by decide) (fun c_6 => ?_) (fun c_6 => ?_)
            · exact absurd c_6 (by decide)
            · skip
              refine lv_aload_n X.1 X.2.1 dX12_clause_200 rfl (lv_at hl 2 rfl) ?_
              refine g12_4 X I (k := 123) (by decide) rfl lf_X12_122 dX12_clause_201 ?_
              refine lv_iconst (v := (-1)) X.1 X.2.1 dX12_clause_204 (by decide) ?_
              refine lv_icmp_ne (tgt := 251) X.1 X.2.1 dX12_clause_205 (by decide) (fun c_7 => ?_) (fun c_7 => ?_)
              · skip
                have hE := ite_f hE c_7
                have ho := ite_fP ho c_7
                refine lv_aload_n X.1 X.2.1 dX12_clause_251 rfl (lv_at hl 2 rfl) ?_
                refine g12_12 X I (k := 123) (by decide) rfl lf_X12_31 dX12_clause_252 ?_
                refine lv_iload_n X.1 X.2.1 dX12_clause_255 rfl (lv_at hl 1 rfl) ?_
                refine lv_aload_n X.1 X.2.1 dX12_clause_256 rfl (lv_at hl 2 rfl) ?_
                refine g12_8 X I (k := 123) (by decide) rfl lf_X12_19 dX12_clause_257 ?_
                refine lv_aload_n X.1 X.2.1 dX12_clause_260 rfl (lv_at hl 2 rfl) ?_
                refine g12_14 X I (k := 123) (by decide) rfl lf_X12_125 dX12_clause_261 ?_
                have ho8 := ho.1
                have ho := ho.2
                refine r_ald X I (k := 127) (n := 5) (by decide) rfl ho8 dX12_clause_264 ?_
                have ho9 := ho.1
                have ho := ho.2
                refine r_ast X I (k := 131) (n := 700) (by decide) rfl ho9 dX12_clause_265 (fun H locs I => ?_)
                refine lv_aload_n X.1 X.2.1 dX12_clause_266 rfl (lv_at hl 2 rfl) ?_
                refine g12_9 X I (k := 123) (by decide) rfl lf_X12_22 dX12_clause_267 ?_
                refine lv_aload_n X.1 X.2.1 dX12_clause_270 rfl (lv_at hl 2 rfl) ?_
                refine g12_14 X I (k := 123) (by decide) rfl lf_X12_125 dX12_clause_271 ?_
                refine lv_dup2_11 X.1 X.2.1 dX12_clause_274 rfl rfl ?_
                have ho10 := ho.1
                have ho := ho.2
                refine r_ald X I (k := 128) (n := 5) (by decide) rfl ho10 dX12_clause_275 ?_
                refine lv_iconst (v := 1) X.1 X.2.1 dX12_clause_276 (by decide) ?_
                refine lv_iadd X.1 X.2.1 dX12_clause_277 ?_
                have ho11 := ho.1
                have ho := ho.2
                refine r_ast X I (k := 128) (n := 5) (by decide) rfl ho11 dX12_clause_278 (fun H locs I => ?_)
                have h9 := hE
                exact r_vret X I (e_v h9.symm rfl) dX12_clause_279
              · skip
                have hE := ite_t hE c_7
                have ho := ite_tP ho c_7
                refine lv_aload_n X.1 X.2.1 dX12_clause_208 rfl (lv_at hl 2 rfl) ?_
                have ho12 := ho.1
                have ho := ho.2
                refine r_ei I (r_runV X I pk_X12_look (c12_look l G _ _ ho12) lm_X12_134 (by decide) (cl_12 rfl) rfl rfl rfl hl.1 rfl (Nat.le_of_ble_eq_true rfl) dX12_clause_209 ⟨Nat.le_of_ble_eq_true rfl, Nat.le_of_ble_eq_true rfl⟩ ⟨Nat.le_refl 0, Nat.le_refl 0⟩) (fun H locs I => ?_)
                refine lv_bipush (v := 63) X.1 X.2.1 dX12_clause_212 (by decide) ?_
                refine lv_icmp_eq (tgt := 222) X.1 X.2.1 dX12_clause_214 (by decide) (fun c_8 => ?_) (fun c_8 => ?_)
                · skip
                  have hE := ite_t hE c_8
                  have ho := ite_tP ho c_8
                  refine lv_aload_n X.1 X.2.1 dX12_clause_222 rfl (lv_at hl 2 rfl) ?_
                  refine lv_dup X.1 X.2.1 dX12_clause_223 rfl ?_
                  refine g12_3 X I (k := 123) (by decide) rfl lf_X12_115 dX12_clause_224 ?_
                  refine lv_iconst (v := 1) X.1 X.2.1 dX12_clause_227 (by decide) ?_
                  refine lv_iadd X.1 X.2.1 dX12_clause_228 ?_
                  refine p12_3 X I (k := 123) (by decide) rfl lf_X12_115 dX12_clause_229 (fun H locs I => ?_)
                  refine lv_aload_n X.1 X.2.1 dX12_clause_232 rfl (lv_at hl 2 rfl) ?_
                  refine g12_11 X I (k := 123) (by decide) rfl lf_X12_28 dX12_clause_233 ?_
                  refine lv_iload_n X.1 X.2.1 dX12_clause_236 rfl (lv_at hl 1 rfl) ?_
                  refine lv_aload_n X.1 X.2.1 dX12_clause_237 rfl (lv_at hl 2 rfl) ?_
                  refine g12_8 X I (k := 123) (by decide) rfl lf_X12_19 dX12_clause_238 ?_
                  refine lv_aload_n X.1 X.2.1 dX12_clause_241 rfl (lv_at hl 2 rfl) ?_
                  refine g12_14 X I (k := 123) (by decide) rfl lf_X12_125 dX12_clause_242 ?_
                  have ho13 := ho.1
                  have ho := ho.2
                  refine r_ald X I (k := 127) (n := 5) (by decide) rfl ho13 dX12_clause_245 ?_
                  have ho14 := ho.1
                  have ho := ho.2
                  refine r_ast X I (k := 130) (n := 700) (by decide) rfl ho14 dX12_clause_246 (fun H locs I => ?_)
                  refine lv_aload_n X.1 X.2.1 dX12_clause_247 rfl (lv_at hl 2 rfl) ?_
                  have ho15 := ho.1
                  have ho := ho.2
                  refine r_ev I (r_runV X I pk_X12_sum (c12_sumR l G _ _ ho15) lm_X12_155 (by decide) (cl_12 rfl) rfl rfl rfl hl.1 rfl (Nat.le_of_ble_eq_true rfl) dX12_clause_248 ⟨Nat.le_of_ble_eq_true rfl, Nat.le_of_ble_eq_true rfl⟩ ⟨Nat.le_refl 0, Nat.le_refl 0⟩) (fun H locs I => ?_)
                  refine lv_aload_n X.1 X.2.1 dX12_clause_251 rfl (lv_at hl 2 rfl) ?_
                  refine g12_12 X I (k := 123) (by decide) rfl lf_X12_31 dX12_clause_252 ?_
                  refine lv_iload_n X.1 X.2.1 dX12_clause_255 rfl (lv_at hl 1 rfl) ?_
                  refine lv_aload_n X.1 X.2.1 dX12_clause_256 rfl (lv_at hl 2 rfl) ?_
                  refine g12_8 X I (k := 123) (by decide) rfl lf_X12_19 dX12_clause_257 ?_
                  refine lv_aload_n X.1 X.2.1 dX12_clause_260 rfl (lv_at hl 2 rfl) ?_
                  refine g12_14 X I (k := 123) (by decide) rfl lf_X12_125 dX12_clause_261 ?_
                  have ho16 := ho.1
                  have ho := ho.2
                  refine r_ald X I (k := 127) (n := 5) (by decide) rfl ho16 dX12_clause_264 ?_
                  have ho17 := ho.1
                  have ho := ho.2
                  refine r_ast X I (k := 131) (n := 700) (by decide) rfl ho17 dX12_clause_265 (fun H locs I => ?_)
                  refine lv_aload_n X.1 X.2.1 dX12_clause_266 rfl (lv_at hl 2 rfl) ?_
                  refine g12_9 X I (k := 123) (by decide) rfl lf_X12_22 dX12_clause_267 ?_
                  refine lv_aload_n X.1 X.2.1 dX12_clause_270 rfl (lv_at hl 2 rfl) ?_
                  refine g12_14 X I (k := 123) (by decide) rfl lf_X12_125 dX12_clause_271 ?_
                  refine lv_dup2_11 X.1 X.2.1 dX12_clause_274 rfl rfl ?_
                  have ho18 := ho.1
                  have ho := ho.2
                  refine r_ald X I (k := 128) (n := 5) (by decide) rfl ho18 dX12_clause_275 ?_
                  refine lv_iconst (v := 1) X.1 X.2.1 dX12_clause_276 (by decide) ?_
                  refine lv_iadd X.1 X.2.1 dX12_clause_277 ?_
                  have ho19 := ho.1
                  have ho := ho.2
                  refine r_ast X I (k := 128) (n := 5) (by decide) rfl ho19 dX12_clause_278 (fun H locs I => ?_)
                  have h9 := hE
                  exact r_vret X I (e_v h9.symm rfl) dX12_clause_279
                · skip
                  have hE := ite_f hE c_8
                  have ho := ite_fP ho c_8
                  refine lv_aload_n X.1 X.2.1 dX12_clause_217 rfl (lv_at hl 2 rfl) ?_
                  refine r_ev I (r_runV X I pk_X12_bad (c12_bad l G _ _) lm_X12_131 (by decide) (cl_12 rfl) rfl rfl rfl hl.1 rfl (Nat.le_of_ble_eq_true rfl) dX12_clause_218 ⟨Nat.le_of_ble_eq_true rfl, Nat.le_of_ble_eq_true rfl⟩ ⟨Nat.le_refl 0, Nat.le_refl 0⟩) (fun H locs I => ?_)
                  have h9 := hE
                  exact r_vret X I (e_v h9.symm rfl) dX12_clause_221
        · skip
          have hE := ite_f hE c_4
          have ho := ite_fP ho c_4
          refine lv_aload_n X.1 X.2.1 dX12_clause_114 rfl (lv_at hl 1 rfl) ?_
          have ho20 := ho.1
          have ho := ho.2
          refine r_ei I (r_runV X I pk_X12_look (c12_look l G _ _ ho20) lm_X12_134 (by decide) (cl_12 rfl) rfl rfl rfl hl.1 rfl (Nat.le_of_ble_eq_true rfl) dX12_clause_115 ⟨Nat.le_of_ble_eq_true rfl, Nat.le_of_ble_eq_true rfl⟩ ⟨Nat.le_refl 0, Nat.le_refl 0⟩) (fun H locs I => ?_)
          refine lv_bipush (v := 40) X.1 X.2.1 dX12_clause_118 (by decide) ?_
          refine lv_icmp_ne (tgt := 127) X.1 X.2.1 dX12_clause_120 (by decide) (fun c_9 => ?_) (fun c_9 => ?_)
          · skip
            have hE := ite_f hE c_9
            have ho := ite_fP ho c_9
            refine lv_iconst (v := 0) X.1 X.2.1 dX12_clause_127 (by decide) ?_
            refine lv_istore_n (lv' := [(2, .int _), (1, .int _), (0, .ref _)]) X.1 X.2.1 dX12_clause_128 rfl hl (by decide) rfl (fun ls hl => ?_)
            refine lv_iload_n X.1 X.2.1 dX12_clause_129 rfl (lv_at hl 0 rfl) ?_
            refine lv_if_eq (tgt := 140) X.1 X.2.1 dX12_clause_130 (by decide) (fun c_10 => ?_) (fun c_10 => ?_)
            · skip
              refine lv_aload_n X.1 X.2.1 dX12_clause_140 rfl (lv_at hl 2 rfl) ?_
              have ho21 := ho.1
              have ho := ho.2
              refine r_ev I (r_runV X I pk_X12_sum (c12_sumR l G _ _ ho21) lm_X12_155 (by decide) (cl_12 rfl) rfl rfl rfl hl.1 rfl (Nat.le_of_ble_eq_true rfl) dX12_clause_141 ⟨Nat.le_of_ble_eq_true rfl, Nat.le_of_ble_eq_true rfl⟩ ⟨Nat.le_refl 0, Nat.le_refl 0⟩) (fun H locs I => ?_)
              refine lv_aload_n X.1 X.2.1 dX12_clause_144 rfl (lv_at hl 2 rfl) ?_
              refine g12_4 X I (k := 123) (by decide) rfl lf_X12_122 dX12_clause_145 ?_
              refine lv_iconst (v := (-1)) X.1 X.2.1 dX12_clause_148 (by decide) ?_
              refine lv_icmp_ne (tgt := 166) X.1 X.2.1 dX12_clause_149 (by decide) (fun c_11 => ?_) (fun c_11 => ?_)
              · skip
                have hE := ite_f hE c_11
                have ho := ite_fP ho c_11
                refine lv_iconst (v := 0) X.1 X.2.1 dX12_clause_166 (by decide) ?_
                refine lv_istore_n (lv' := [(2, .int _), (1, .int _), (0, .ref _)]) X.1 X.2.1 dX12_clause_167 rfl hl (by decide) rfl (fun ls hl => ?_)
                refine lv_iload_n X.1 X.2.1 dX12_clause_168 rfl (lv_at hl 0 rfl) ?_
                refine lv_if_eq (tgt := 184) X.1 X.2.1 dX12_clause_169 (by decide) (fun c_12 => ?_) (fun c_12 => ?_)
                · skip
                  refine lv_aload_n X.1 X.2.1 dX12_clause_184 rfl (lv_at hl 2 rfl) ?_
                  refine g12_11 X I (k := 123) (by decide) rfl lf_X12_28 dX12_clause_185 ?_
                  refine lv_iload_n X.1 X.2.1 dX12_clause_188 rfl (lv_at hl 1 rfl) ?_
                  refine lv_aload_n X.1 X.2.1 dX12_clause_189 rfl (lv_at hl 2 rfl) ?_
                  refine g12_10 X I (k := 123) (by decide) rfl lf_X12_25 dX12_clause_190 ?_
                  refine lv_iload_n X.1 X.2.1 dX12_clause_193 rfl (lv_at hl 1 rfl) ?_
                  have ho22 := ho.1
                  have ho := ho.2
                  refine r_ald X I (k := 129) (n := 700) (by decide) rfl ho22 dX12_clause_194 ?_
                  have ho23 := ho.1
                  have ho := ho.2
                  refine r_ast X I (k := 130) (n := 700) (by decide) rfl ho23 dX12_clause_195 (fun H locs I => ?_)
                  refine lv_iload_n X.1 X.2.1 dX12_clause_196 rfl (lv_at hl 0 rfl) ?_
                  refine lv_if_eq (tgt := 251) X.1 X.2.1 dX12_clause_197 (by decide) (fun c_13 => ?_) (fun c_13 => ?_)
                  · skip
                    refine lv_aload_n X.1 X.2.1 dX12_clause_251 rfl (lv_at hl 2 rfl) ?_
                    refine g12_12 X I (k := 123) (by decide) rfl lf_X12_31 dX12_clause_252 ?_
                    refine lv_iload_n X.1 X.2.1 dX12_clause_255 rfl (lv_at hl 1 rfl) ?_
                    refine lv_aload_n X.1 X.2.1 dX12_clause_256 rfl (lv_at hl 2 rfl) ?_
                    refine g12_8 X I (k := 123) (by decide) rfl lf_X12_19 dX12_clause_257 ?_
                    refine lv_aload_n X.1 X.2.1 dX12_clause_260 rfl (lv_at hl 2 rfl) ?_
                    refine g12_14 X I (k := 123) (by decide) rfl lf_X12_125 dX12_clause_261 ?_
                    have ho24 := ho.1
                    have ho := ho.2
                    refine r_ald X I (k := 127) (n := 5) (by decide) rfl ho24 dX12_clause_264 ?_
                    have ho25 := ho.1
                    have ho := ho.2
                    refine r_ast X I (k := 131) (n := 700) (by decide) rfl ho25 dX12_clause_265 (fun H locs I => ?_)
                    refine lv_aload_n X.1 X.2.1 dX12_clause_266 rfl (lv_at hl 2 rfl) ?_
                    refine g12_9 X I (k := 123) (by decide) rfl lf_X12_22 dX12_clause_267 ?_
                    refine lv_aload_n X.1 X.2.1 dX12_clause_270 rfl (lv_at hl 2 rfl) ?_
                    refine g12_14 X I (k := 123) (by decide) rfl lf_X12_125 dX12_clause_271 ?_
                    refine lv_dup2_11 X.1 X.2.1 dX12_clause_274 rfl rfl ?_
                    have ho26 := ho.1
                    have ho := ho.2
                    refine r_ald X I (k := 128) (n := 5) (by decide) rfl ho26 dX12_clause_275 ?_
                    refine lv_iconst (v := 1) X.1 X.2.1 dX12_clause_276 (by decide) ?_
                    refine lv_iadd X.1 X.2.1 dX12_clause_277 ?_
                    have ho27 := ho.1
                    have ho := ho.2
                    refine r_ast X I (k := 128) (n := 5) (by decide) rfl ho27 dX12_clause_278 (fun H locs I => ?_)
                    have h9 := hE
                    exact r_vret X I (e_v h9.symm rfl) dX12_clause_279
                  · exact absurd c_13 (by decide)
                · exact absurd c_12 (by decide)
              · skip
                have hE := ite_t hE c_11
                have ho := ite_tP ho c_11
                refine lv_aload_n X.1 X.2.1 dX12_clause_152 rfl (lv_at hl 2 rfl) ?_
                have ho28 := ho.1
                have ho := ho.2
                refine r_ei I (r_runV X I pk_X12_look (c12_look l G _ _ ho28) lm_X12_134 (by decide) (cl_12 rfl) rfl rfl rfl hl.1 rfl (Nat.le_of_ble_eq_true rfl) dX12_clause_153 ⟨Nat.le_of_ble_eq_true rfl, Nat.le_of_ble_eq_true rfl⟩ ⟨Nat.le_refl 0, Nat.le_refl 0⟩) (fun H locs I => ?_)
                refine r_ei I (r_runS X I pk_X12_isSign (c12_isSign l G _ _ _) lm_X12_168 rfl hl.1 rfl (Nat.le_of_ble_eq_true rfl) dX12_clause_156 ⟨Nat.le_of_ble_eq_true rfl, Nat.le_of_ble_eq_true rfl⟩ ⟨Nat.le_refl 0, Nat.le_refl 0⟩) (fun H locs I => ?_)
                refine lv_if_eq (tgt := 166) X.1 X.2.1 dX12_clause_159 (by decide) (fun c_14 => ?_) (fun c_14 => ?_)
                · skip
                  have hE := ite_f hE (b2i_n c_14)
                  have ho := ite_fP ho (b2i_n c_14)
                  refine lv_iconst (v := 0) X.1 X.2.1 dX12_clause_166 (by decide) ?_
                  refine lv_istore_n (lv' := [(2, .int _), (1, .int _), (0, .ref _)]) X.1 X.2.1 dX12_clause_167 rfl hl (by decide) rfl (fun ls hl => ?_)
                  refine lv_iload_n X.1 X.2.1 dX12_clause_168 rfl (lv_at hl 0 rfl) ?_
                  refine lv_if_eq (tgt := 184) X.1 X.2.1 dX12_clause_169 (by decide) (fun c_15 => ?_) (fun c_15 => ?_)
                  · skip
                    refine lv_aload_n X.1 X.2.1 dX12_clause_184 rfl (lv_at hl 2 rfl) ?_
                    refine g12_11 X I (k := 123) (by decide) rfl lf_X12_28 dX12_clause_185 ?_
                    refine lv_iload_n X.1 X.2.1 dX12_clause_188 rfl (lv_at hl 1 rfl) ?_
                    refine lv_aload_n X.1 X.2.1 dX12_clause_189 rfl (lv_at hl 2 rfl) ?_
                    refine g12_10 X I (k := 123) (by decide) rfl lf_X12_25 dX12_clause_190 ?_
                    refine lv_iload_n X.1 X.2.1 dX12_clause_193 rfl (lv_at hl 1 rfl) ?_
                    have ho29 := ho.1
                    have ho := ho.2
                    refine r_ald X I (k := 129) (n := 700) (by decide) rfl ho29 dX12_clause_194 ?_
                    have ho30 := ho.1
                    have ho := ho.2
                    refine r_ast X I (k := 130) (n := 700) (by decide) rfl ho30 dX12_clause_195 (fun H locs I => ?_)
                    refine lv_iload_n X.1 X.2.1 dX12_clause_196 rfl (lv_at hl 0 rfl) ?_
                    refine lv_if_eq (tgt := 251) X.1 X.2.1 dX12_clause_197 (by decide) (fun c_16 => ?_) (fun c_16 => ?_)
                    · skip
                      refine lv_aload_n X.1 X.2.1 dX12_clause_251 rfl (lv_at hl 2 rfl) ?_
                      refine g12_12 X I (k := 123) (by decide) rfl lf_X12_31 dX12_clause_252 ?_
                      refine lv_iload_n X.1 X.2.1 dX12_clause_255 rfl (lv_at hl 1 rfl) ?_
                      refine lv_aload_n X.1 X.2.1 dX12_clause_256 rfl (lv_at hl 2 rfl) ?_
                      refine g12_8 X I (k := 123) (by decide) rfl lf_X12_19 dX12_clause_257 ?_
                      refine lv_aload_n X.1 X.2.1 dX12_clause_260 rfl (lv_at hl 2 rfl) ?_
                      refine g12_14 X I (k := 123) (by decide) rfl lf_X12_125 dX12_clause_261 ?_
                      have ho31 := ho.1
                      have ho := ho.2
                      refine r_ald X I (k := 127) (n := 5) (by decide) rfl ho31 dX12_clause_264 ?_
                      have ho32 := ho.1
                      have ho := ho.2
                      refine r_ast X I (k := 131) (n := 700) (by decide) rfl ho32 dX12_clause_265 (fun H locs I => ?_)
                      refine lv_aload_n X.1 X.2.1 dX12_clause_266 rfl (lv_at hl 2 rfl) ?_
                      refine g12_9 X I (k := 123) (by decide) rfl lf_X12_22 dX12_clause_267 ?_
                      refine lv_aload_n X.1 X.2.1 dX12_clause_270 rfl (lv_at hl 2 rfl) ?_
                      refine g12_14 X I (k := 123) (by decide) rfl lf_X12_125 dX12_clause_271 ?_
                      refine lv_dup2_11 X.1 X.2.1 dX12_clause_274 rfl rfl ?_
                      have ho33 := ho.1
                      have ho := ho.2
                      refine r_ald X I (k := 128) (n := 5) (by decide) rfl ho33 dX12_clause_275 ?_
                      refine lv_iconst (v := 1) X.1 X.2.1 dX12_clause_276 (by decide) ?_
                      refine lv_iadd X.1 X.2.1 dX12_clause_277 ?_
                      have ho34 := ho.1
                      have ho := ho.2
                      refine r_ast X I (k := 128) (n := 5) (by decide) rfl ho34 dX12_clause_278 (fun H locs I => ?_)
                      have h9 := hE
                      exact r_vret X I (e_v h9.symm rfl) dX12_clause_279
                    · exact absurd c_16 (by decide)
                  · exact absurd c_15 (by decide)
                · skip
                  have hE := ite_t hE (b2i_y c_14)
                  have ho := ite_tP ho (b2i_y c_14)
                  refine lv_iconst (v := 1) X.1 X.2.1 dX12_clause_162 (by decide) ?_
                  refine lv_goto (tgt := 167) X.1 X.2.1 dX12_clause_163 (by decide) ?_
                  refine lv_istore_n (lv' := [(2, .int _), (1, .int _), (0, .ref _)]) X.1 X.2.1 dX12_clause_167 rfl hl (by decide) rfl (fun ls hl => ?_)
                  refine lv_iload_n X.1 X.2.1 dX12_clause_168 rfl (lv_at hl 0 rfl) ?_
                  refine lv_if_eq (tgt := 184) X.1 X.2.1 dX12_clause_169 (by decide) (fun c_17 => ?_) (fun c_17 => ?_)
                  · exact absurd c_17 (by decide)
                  · skip
                    refine lv_aload_n X.1 X.2.1 dX12_clause_172 rfl (lv_at hl 2 rfl) ?_
                    have ho35 := ho.1
                    have ho := ho.2
                    refine r_ev I (r_runV X I pk_X12_compare (c12_compare l G _ _ ho35) lm_X12_177 (by decide) (cl_12 rfl) rfl rfl rfl hl.1 rfl (Nat.le_of_ble_eq_true rfl) dX12_clause_173 ⟨Nat.le_of_ble_eq_true rfl, Nat.le_of_ble_eq_true rfl⟩ ⟨Nat.le_refl 0, Nat.le_refl 0⟩) (fun H locs I => ?_)
                    refine lv_aload_n X.1 X.2.1 dX12_clause_176 rfl (lv_at hl 2 rfl) ?_
                    have ho36 := ho.1
                    have ho := ho.2
                    refine r_ev I (r_runV X I pk_X12_goOnAnd (c12_goOnAndR l G _ _ ho36) lm_X12_180 (by decide) (cl_12 rfl) rfl rfl rfl hl.1 rfl (Nat.le_of_ble_eq_true rfl) dX12_clause_177 ⟨Nat.le_of_ble_eq_true rfl, Nat.le_of_ble_eq_true rfl⟩ ⟨Nat.le_refl 0, Nat.le_refl 0⟩) (fun H locs I => ?_)
                    refine lv_aload_n X.1 X.2.1 dX12_clause_180 rfl (lv_at hl 2 rfl) ?_
                    have ho37 := ho.1
                    have ho := ho.2
                    refine r_ev I (r_runV X I pk_X12_goOnOr (c12_goOnOrR l G _ _ ho37) lm_X12_183 (by decide) (cl_12 rfl) rfl rfl rfl hl.1 rfl (Nat.le_of_ble_eq_true rfl) dX12_clause_181 ⟨Nat.le_of_ble_eq_true rfl, Nat.le_of_ble_eq_true rfl⟩ ⟨Nat.le_refl 0, Nat.le_refl 0⟩) (fun H locs I => ?_)
                    refine lv_aload_n X.1 X.2.1 dX12_clause_184 rfl (lv_at hl 2 rfl) ?_
                    refine g12_11 X I (k := 123) (by decide) rfl lf_X12_28 dX12_clause_185 ?_
                    refine lv_iload_n X.1 X.2.1 dX12_clause_188 rfl (lv_at hl 1 rfl) ?_
                    refine lv_aload_n X.1 X.2.1 dX12_clause_189 rfl (lv_at hl 2 rfl) ?_
                    refine g12_10 X I (k := 123) (by decide) rfl lf_X12_25 dX12_clause_190 ?_
                    refine lv_iload_n X.1 X.2.1 dX12_clause_193 rfl (lv_at hl 1 rfl) ?_
                    have ho38 := ho.1
                    have ho := ho.2
                    refine r_ald X I (k := 129) (n := 700) (by decide) rfl ho38 dX12_clause_194 ?_
                    have ho39 := ho.1
                    have ho := ho.2
                    refine r_ast X I (k := 130) (n := 700) (by decide) rfl ho39 dX12_clause_195 (fun H locs I => ?_)
                    refine lv_iload_n X.1 X.2.1 dX12_clause_196 rfl (lv_at hl 0 rfl) ?_
                    refine lv_if_eq (tgt := 251) X.1 X.2.1 dX12_clause_197 (by decide) (fun c_18 => ?_) (fun c_18 => ?_)
                    · exact absurd c_18 (by decide)
                    · skip
                      refine lv_aload_n X.1 X.2.1 dX12_clause_200 rfl (lv_at hl 2 rfl) ?_
                      refine g12_4 X I (k := 123) (by decide) rfl lf_X12_122 dX12_clause_201 ?_
                      refine lv_iconst (v := (-1)) X.1 X.2.1 dX12_clause_204 (by decide) ?_
                      refine lv_icmp_ne (tgt := 251) X.1 X.2.1 dX12_clause_205 (by decide) (fun c_19 => ?_) (fun c_19 => ?_)
                      · skip
                        have hE := ite_f hE c_19
                        have ho := ite_fP ho c_19
                        refine lv_aload_n X.1 X.2.1 dX12_clause_251 rfl (lv_at hl 2 rfl) ?_
                        refine g12_12 X I (k := 123) (by decide) rfl lf_X12_31 dX12_clause_252 ?_
                        refine lv_iload_n X.1 X.2.1 dX12_clause_255 rfl (lv_at hl 1 rfl) ?_
                        refine lv_aload_n X.1 X.2.1 dX12_clause_256 rfl (lv_at hl 2 rfl) ?_
                        refine g12_8 X I (k := 123) (by decide) rfl lf_X12_19 dX12_clause_257 ?_
                        refine lv_aload_n X.1 X.2.1 dX12_clause_260 rfl (lv_at hl 2 rfl) ?_
                        refine g12_14 X I (k := 123) (by decide) rfl lf_X12_125 dX12_clause_261 ?_
                        have ho40 := ho.1
                        have ho := ho.2
                        refine r_ald X I (k := 127) (n := 5) (by decide) rfl ho40 dX12_clause_264 ?_
                        have ho41 := ho.1
                        have ho := ho.2
                        refine r_ast X I (k := 131) (n := 700) (by decide) rfl ho41 dX12_clause_265 (fun H locs I => ?_)
                        refine lv_aload_n X.1 X.2.1 dX12_clause_266 rfl (lv_at hl 2 rfl) ?_
                        refine g12_9 X I (k := 123) (by decide) rfl lf_X12_22 dX12_clause_267 ?_
                        refine lv_aload_n X.1 X.2.1 dX12_clause_270 rfl (lv_at hl 2 rfl) ?_
                        refine g12_14 X I (k := 123) (by decide) rfl lf_X12_125 dX12_clause_271 ?_
                        refine lv_dup2_11 X.1 X.2.1 dX12_clause_274 rfl rfl ?_
                        have ho42 := ho.1
                        have ho := ho.2
                        refine r_ald X I (k := 128) (n := 5) (by decide) rfl ho42 dX12_clause_275 ?_
                        refine lv_iconst (v := 1) X.1 X.2.1 dX12_clause_276 (by decide) ?_
                        refine lv_iadd X.1 X.2.1 dX12_clause_277 ?_
                        have ho43 := ho.1
                        have ho := ho.2
                        refine r_ast X I (k := 128) (n := 5) (by decide) rfl ho43 dX12_clause_278 (fun H locs I => ?_)
                        have h9 := hE
                        exact r_vret X I (e_v h9.symm rfl) dX12_clause_279
                      · skip
                        have hE := ite_t hE c_19
                        have ho := ite_tP ho c_19
                        refine lv_aload_n X.1 X.2.1 dX12_clause_208 rfl (lv_at hl 2 rfl) ?_
                        have ho44 := ho.1
                        have ho := ho.2
                        refine r_ei I (r_runV X I pk_X12_look (c12_look l G _ _ ho44) lm_X12_134 (by decide) (cl_12 rfl) rfl rfl rfl hl.1 rfl (Nat.le_of_ble_eq_true rfl) dX12_clause_209 ⟨Nat.le_of_ble_eq_true rfl, Nat.le_of_ble_eq_true rfl⟩ ⟨Nat.le_refl 0, Nat.le_refl 0⟩) (fun H locs I => ?_)
                        refine lv_bipush (v := 63) X.1 X.2.1 dX12_clause_212 (by decide) ?_
                        refine lv_icmp_eq (tgt := 222) X.1 X.2.1 dX12_clause_214 (by decide) (fun c_20 => ?_) (fun c_20 => ?_)
                        · skip
                          have hE := ite_t hE c_20
                          have ho := ite_tP ho c_20
                          refine lv_aload_n X.1 X.2.1 dX12_clause_222 rfl (lv_at hl 2 rfl) ?_
                          refine lv_dup X.1 X.2.1 dX12_clause_223 rfl ?_
                          refine g12_3 X I (k := 123) (by decide) rfl lf_X12_115 dX12_clause_224 ?_
                          refine lv_iconst (v := 1) X.1 X.2.1 dX12_clause_227 (by decide) ?_
                          refine lv_iadd X.1 X.2.1 dX12_clause_228 ?_
                          refine p12_3 X I (k := 123) (by decide) rfl lf_X12_115 dX12_clause_229 (fun H locs I => ?_)
                          refine lv_aload_n X.1 X.2.1 dX12_clause_232 rfl (lv_at hl 2 rfl) ?_
                          refine g12_11 X I (k := 123) (by decide) rfl lf_X12_28 dX12_clause_233 ?_
                          refine lv_iload_n X.1 X.2.1 dX12_clause_236 rfl (lv_at hl 1 rfl) ?_
                          refine lv_aload_n X.1 X.2.1 dX12_clause_237 rfl (lv_at hl 2 rfl) ?_
                          refine g12_8 X I (k := 123) (by decide) rfl lf_X12_19 dX12_clause_238 ?_
                          refine lv_aload_n X.1 X.2.1 dX12_clause_241 rfl (lv_at hl 2 rfl) ?_
                          refine g12_14 X I (k := 123) (by decide) rfl lf_X12_125 dX12_clause_242 ?_
                          have ho45 := ho.1
                          have ho := ho.2
                          refine r_ald X I (k := 127) (n := 5) (by decide) rfl ho45 dX12_clause_245 ?_
                          have ho46 := ho.1
                          have ho := ho.2
                          refine r_ast X I (k := 130) (n := 700) (by decide) rfl ho46 dX12_clause_246 (fun H locs I => ?_)
                          refine lv_aload_n X.1 X.2.1 dX12_clause_247 rfl (lv_at hl 2 rfl) ?_
                          have ho47 := ho.1
                          have ho := ho.2
                          refine r_ev I (r_runV X I pk_X12_sum (c12_sumR l G _ _ ho47) lm_X12_155 (by decide) (cl_12 rfl) rfl rfl rfl hl.1 rfl (Nat.le_of_ble_eq_true rfl) dX12_clause_248 ⟨Nat.le_of_ble_eq_true rfl, Nat.le_of_ble_eq_true rfl⟩ ⟨Nat.le_refl 0, Nat.le_refl 0⟩) (fun H locs I => ?_)
                          refine lv_aload_n X.1 X.2.1 dX12_clause_251 rfl (lv_at hl 2 rfl) ?_
                          refine g12_12 X I (k := 123) (by decide) rfl lf_X12_31 dX12_clause_252 ?_
                          refine lv_iload_n X.1 X.2.1 dX12_clause_255 rfl (lv_at hl 1 rfl) ?_
                          refine lv_aload_n X.1 X.2.1 dX12_clause_256 rfl (lv_at hl 2 rfl) ?_
                          refine g12_8 X I (k := 123) (by decide) rfl lf_X12_19 dX12_clause_257 ?_
                          refine lv_aload_n X.1 X.2.1 dX12_clause_260 rfl (lv_at hl 2 rfl) ?_
                          refine g12_14 X I (k := 123) (by decide) rfl lf_X12_125 dX12_clause_261 ?_
                          have ho48 := ho.1
                          have ho := ho.2
                          refine r_ald X I (k := 127) (n := 5) (by decide) rfl ho48 dX12_clause_264 ?_
                          have ho49 := ho.1
                          have ho := ho.2
                          refine r_ast X I (k := 131) (n := 700) (by decide) rfl ho49 dX12_clause_265 (fun H locs I => ?_)
                          refine lv_aload_n X.1 X.2.1 dX12_clause_266 rfl (lv_at hl 2 rfl) ?_
                          refine g12_9 X I (k := 123) (by decide) rfl lf_X12_22 dX12_clause_267 ?_
                          refine lv_aload_n X.1 X.2.1 dX12_clause_270 rfl (lv_at hl 2 rfl) ?_
                          refine g12_14 X I (k := 123) (by decide) rfl lf_X12_125 dX12_clause_271 ?_
                          refine lv_dup2_11 X.1 X.2.1 dX12_clause_274 rfl rfl ?_
                          have ho50 := ho.1
                          have ho := ho.2
                          refine r_ald X I (k := 128) (n := 5) (by decide) rfl ho50 dX12_clause_275 ?_
                          refine lv_iconst (v := 1) X.1 X.2.1 dX12_clause_276 (by decide) ?_
                          refine lv_iadd X.1 X.2.1 dX12_clause_277 ?_
                          have ho51 := ho.1
                          have ho := ho.2
                          refine r_ast X I (k := 128) (n := 5) (by decide) rfl ho51 dX12_clause_278 (fun H locs I => ?_)
                          have h9 := hE
                          exact r_vret X I (e_v h9.symm rfl) dX12_clause_279
                        · skip
                          have hE := ite_f hE c_20
                          have ho := ite_fP ho c_20
                          refine lv_aload_n X.1 X.2.1 dX12_clause_217 rfl (lv_at hl 2 rfl) ?_
                          refine r_ev I (r_runV X I pk_X12_bad (c12_bad l G _ _) lm_X12_131 (by decide) (cl_12 rfl) rfl rfl rfl hl.1 rfl (Nat.le_of_ble_eq_true rfl) dX12_clause_218 ⟨Nat.le_of_ble_eq_true rfl, Nat.le_of_ble_eq_true rfl⟩ ⟨Nat.le_refl 0, Nat.le_refl 0⟩) (fun H locs I => ?_)
                          have h9 := hE
                          exact r_vret X I (e_v h9.symm rfl) dX12_clause_221
            · exact absurd c_10 (by decide)
          · skip
            have hE := ite_t hE c_9
            have ho := ite_tP ho c_9
            refine lv_iconst (v := 1) X.1 X.2.1 dX12_clause_123 (by decide) ?_
            refine lv_goto (tgt := 128) X.1 X.2.1 dX12_clause_124 (by decide) ?_
            refine lv_istore_n (lv' := [(2, .int _), (1, .int _), (0, .ref _)]) X.1 X.2.1 dX12_clause_128 rfl hl (by decide) rfl (fun ls hl => ?_)
            refine lv_iload_n X.1 X.2.1 dX12_clause_129 rfl (lv_at hl 0 rfl) ?_
            refine lv_if_eq (tgt := 140) X.1 X.2.1 dX12_clause_130 (by decide) (fun c_21 => ?_) (fun c_21 => ?_)
            · exact absurd c_21 (by decide)
            · skip
              refine lv_aload_n X.1 X.2.1 dX12_clause_133 rfl (lv_at hl 2 rfl) ?_
              have ho52 := ho.1
              have ho := ho.2
              refine r_ev I (r_runV X I pk_X12_condition (c12_conditionR l G _ _ ho52) lm_X12_174 (by decide) (cl_12 rfl) rfl rfl rfl hl.1 rfl (Nat.le_of_ble_eq_true rfl) dX12_clause_134 ⟨Nat.le_of_ble_eq_true rfl, Nat.le_of_ble_eq_true rfl⟩ ⟨Nat.le_refl 0, Nat.le_refl 0⟩) (fun H locs I => ?_)
              refine lv_goto (tgt := 184) X.1 X.2.1 dX12_clause_137 (by decide) ?_
              refine lv_aload_n X.1 X.2.1 dX12_clause_184 rfl (lv_at hl 2 rfl) ?_
              refine g12_11 X I (k := 123) (by decide) rfl lf_X12_28 dX12_clause_185 ?_
              refine lv_iload_n X.1 X.2.1 dX12_clause_188 rfl (lv_at hl 1 rfl) ?_
              refine lv_aload_n X.1 X.2.1 dX12_clause_189 rfl (lv_at hl 2 rfl) ?_
              refine g12_10 X I (k := 123) (by decide) rfl lf_X12_25 dX12_clause_190 ?_
              refine lv_iload_n X.1 X.2.1 dX12_clause_193 rfl (lv_at hl 1 rfl) ?_
              have ho53 := ho.1
              have ho := ho.2
              refine r_ald X I (k := 129) (n := 700) (by decide) rfl ho53 dX12_clause_194 ?_
              have ho54 := ho.1
              have ho := ho.2
              refine r_ast X I (k := 130) (n := 700) (by decide) rfl ho54 dX12_clause_195 (fun H locs I => ?_)
              refine lv_iload_n X.1 X.2.1 dX12_clause_196 rfl (lv_at hl 0 rfl) ?_
              refine lv_if_eq (tgt := 251) X.1 X.2.1 dX12_clause_197 (by decide) (fun c_22 => ?_) (fun c_22 => ?_)
              · exact absurd c_22 (by decide)
              · skip
                refine lv_aload_n X.1 X.2.1 dX12_clause_200 rfl (lv_at hl 2 rfl) ?_
                refine g12_4 X I (k := 123) (by decide) rfl lf_X12_122 dX12_clause_201 ?_
                refine lv_iconst (v := (-1)) X.1 X.2.1 dX12_clause_204 (by decide) ?_
                refine lv_icmp_ne (tgt := 251) X.1 X.2.1 dX12_clause_205 (by decide) (fun c_23 => ?_) (fun c_23 => ?_)
                · skip
                  have hE := ite_f hE c_23
                  have ho := ite_fP ho c_23
                  refine lv_aload_n X.1 X.2.1 dX12_clause_251 rfl (lv_at hl 2 rfl) ?_
                  refine g12_12 X I (k := 123) (by decide) rfl lf_X12_31 dX12_clause_252 ?_
                  refine lv_iload_n X.1 X.2.1 dX12_clause_255 rfl (lv_at hl 1 rfl) ?_
                  refine lv_aload_n X.1 X.2.1 dX12_clause_256 rfl (lv_at hl 2 rfl) ?_
                  refine g12_8 X I (k := 123) (by decide) rfl lf_X12_19 dX12_clause_257 ?_
                  refine lv_aload_n X.1 X.2.1 dX12_clause_260 rfl (lv_at hl 2 rfl) ?_
                  refine g12_14 X I (k := 123) (by decide) rfl lf_X12_125 dX12_clause_261 ?_
                  have ho55 := ho.1
                  have ho := ho.2
                  refine r_ald X I (k := 127) (n := 5) (by decide) rfl ho55 dX12_clause_264 ?_
                  have ho56 := ho.1
                  have ho := ho.2
                  refine r_ast X I (k := 131) (n := 700) (by decide) rfl ho56 dX12_clause_265 (fun H locs I => ?_)
                  refine lv_aload_n X.1 X.2.1 dX12_clause_266 rfl (lv_at hl 2 rfl) ?_
                  refine g12_9 X I (k := 123) (by decide) rfl lf_X12_22 dX12_clause_267 ?_
                  refine lv_aload_n X.1 X.2.1 dX12_clause_270 rfl (lv_at hl 2 rfl) ?_
                  refine g12_14 X I (k := 123) (by decide) rfl lf_X12_125 dX12_clause_271 ?_
                  refine lv_dup2_11 X.1 X.2.1 dX12_clause_274 rfl rfl ?_
                  have ho57 := ho.1
                  have ho := ho.2
                  refine r_ald X I (k := 128) (n := 5) (by decide) rfl ho57 dX12_clause_275 ?_
                  refine lv_iconst (v := 1) X.1 X.2.1 dX12_clause_276 (by decide) ?_
                  refine lv_iadd X.1 X.2.1 dX12_clause_277 ?_
                  have ho58 := ho.1
                  have ho := ho.2
                  refine r_ast X I (k := 128) (n := 5) (by decide) rfl ho58 dX12_clause_278 (fun H locs I => ?_)
                  have h9 := hE
                  exact r_vret X I (e_v h9.symm rfl) dX12_clause_279
                · skip
                  have hE := ite_t hE c_23
                  have ho := ite_tP ho c_23
                  refine lv_aload_n X.1 X.2.1 dX12_clause_208 rfl (lv_at hl 2 rfl) ?_
                  have ho59 := ho.1
                  have ho := ho.2
                  refine r_ei I (r_runV X I pk_X12_look (c12_look l G _ _ ho59) lm_X12_134 (by decide) (cl_12 rfl) rfl rfl rfl hl.1 rfl (Nat.le_of_ble_eq_true rfl) dX12_clause_209 ⟨Nat.le_of_ble_eq_true rfl, Nat.le_of_ble_eq_true rfl⟩ ⟨Nat.le_refl 0, Nat.le_refl 0⟩) (fun H locs I => ?_)
                  refine lv_bipush (v := 63) X.1 X.2.1 dX12_clause_212 (by decide) ?_
                  refine lv_icmp_eq (tgt := 222) X.1 X.2.1 dX12_clause_214 (by decide) (fun c_24 => ?_) (fun c_24 => ?_)
                  · skip
                    have hE := ite_t hE c_24
                    have ho := ite_tP ho c_24
                    refine lv_aload_n X.1 X.2.1 dX12_clause_222 rfl (lv_at hl 2 rfl) ?_
                    refine lv_dup X.1 X.2.1 dX12_clause_223 rfl ?_
                    refine g12_3 X I (k := 123) (by decide) rfl lf_X12_115 dX12_clause_224 ?_
                    refine lv_iconst (v := 1) X.1 X.2.1 dX12_clause_227 (by decide) ?_
                    refine lv_iadd X.1 X.2.1 dX12_clause_228 ?_
                    refine p12_3 X I (k := 123) (by decide) rfl lf_X12_115 dX12_clause_229 (fun H locs I => ?_)
                    refine lv_aload_n X.1 X.2.1 dX12_clause_232 rfl (lv_at hl 2 rfl) ?_
                    refine g12_11 X I (k := 123) (by decide) rfl lf_X12_28 dX12_clause_233 ?_
                    refine lv_iload_n X.1 X.2.1 dX12_clause_236 rfl (lv_at hl 1 rfl) ?_
                    refine lv_aload_n X.1 X.2.1 dX12_clause_237 rfl (lv_at hl 2 rfl) ?_
                    refine g12_8 X I (k := 123) (by decide) rfl lf_X12_19 dX12_clause_238 ?_
                    refine lv_aload_n X.1 X.2.1 dX12_clause_241 rfl (lv_at hl 2 rfl) ?_
                    refine g12_14 X I (k := 123) (by decide) rfl lf_X12_125 dX12_clause_242 ?_
                    have ho60 := ho.1
                    have ho := ho.2
                    refine r_ald X I (k := 127) (n := 5) (by decide) rfl ho60 dX12_clause_245 ?_
                    have ho61 := ho.1
                    have ho := ho.2
                    refine r_ast X I (k := 130) (n := 700) (by decide) rfl ho61 dX12_clause_246 (fun H locs I => ?_)
                    refine lv_aload_n X.1 X.2.1 dX12_clause_247 rfl (lv_at hl 2 rfl) ?_
                    have ho62 := ho.1
                    have ho := ho.2
                    refine r_ev I (r_runV X I pk_X12_sum (c12_sumR l G _ _ ho62) lm_X12_155 (by decide) (cl_12 rfl) rfl rfl rfl hl.1 rfl (Nat.le_of_ble_eq_true rfl) dX12_clause_248 ⟨Nat.le_of_ble_eq_true rfl, Nat.le_of_ble_eq_true rfl⟩ ⟨Nat.le_refl 0, Nat.le_refl 0⟩) (fun H locs I => ?_)
                    refine lv_aload_n X.1 X.2.1 dX12_clause_251 rfl (lv_at hl 2 rfl) ?_
                    refine g12_12 X I (k := 123) (by decide) rfl lf_X12_31 dX12_clause_252 ?_
                    refine lv_iload_n X.1 X.2.1 dX12_clause_255 rfl (lv_at hl 1 rfl) ?_
                    refine lv_aload_n X.1 X.2.1 dX12_clause_256 rfl (lv_at hl 2 rfl) ?_
                    refine g12_8 X I (k := 123) (by decide) rfl lf_X12_19 dX12_clause_257 ?_
                    refine lv_aload_n X.1 X.2.1 dX12_clause_260 rfl (lv_at hl 2 rfl) ?_
                    refine g12_14 X I (k := 123) (by decide) rfl lf_X12_125 dX12_clause_261 ?_
                    have ho63 := ho.1
                    have ho := ho.2
                    refine r_ald X I (k := 127) (n := 5) (by decide) rfl ho63 dX12_clause_264 ?_
                    have ho64 := ho.1
                    have ho := ho.2
                    refine r_ast X I (k := 131) (n := 700) (by decide) rfl ho64 dX12_clause_265 (fun H locs I => ?_)
                    refine lv_aload_n X.1 X.2.1 dX12_clause_266 rfl (lv_at hl 2 rfl) ?_
                    refine g12_9 X I (k := 123) (by decide) rfl lf_X12_22 dX12_clause_267 ?_
                    refine lv_aload_n X.1 X.2.1 dX12_clause_270 rfl (lv_at hl 2 rfl) ?_
                    refine g12_14 X I (k := 123) (by decide) rfl lf_X12_125 dX12_clause_271 ?_
                    refine lv_dup2_11 X.1 X.2.1 dX12_clause_274 rfl rfl ?_
                    have ho65 := ho.1
                    have ho := ho.2
                    refine r_ald X I (k := 128) (n := 5) (by decide) rfl ho65 dX12_clause_275 ?_
                    refine lv_iconst (v := 1) X.1 X.2.1 dX12_clause_276 (by decide) ?_
                    refine lv_iadd X.1 X.2.1 dX12_clause_277 ?_
                    have ho66 := ho.1
                    have ho := ho.2
                    refine r_ast X I (k := 128) (n := 5) (by decide) rfl ho66 dX12_clause_278 (fun H locs I => ?_)
                    have h9 := hE
                    exact r_vret X I (e_v h9.symm rfl) dX12_clause_279
                  · skip
                    have hE := ite_f hE c_24
                    have ho := ite_fP ho c_24
                    refine lv_aload_n X.1 X.2.1 dX12_clause_217 rfl (lv_at hl 2 rfl) ?_
                    refine r_ev I (r_runV X I pk_X12_bad (c12_bad l G _ _) lm_X12_131 (by decide) (cl_12 rfl) rfl rfl rfl hl.1 rfl (Nat.le_of_ble_eq_true rfl) dX12_clause_218 ⟨Nat.le_of_ble_eq_true rfl, Nat.le_of_ble_eq_true rfl⟩ ⟨Nat.le_refl 0, Nat.le_refl 0⟩) (fun H locs I => ?_)
                    have h9 := hE
                    exact r_vret X I (e_v h9.symm rfl) dX12_clause_221
      · skip
        have hE := ite_f hE c_3
        have ho := ite_fP ho c_3
        have h9 := hE
        exact r_vret X I (e_v h9.symm rfl) dX12_clause_89
    · skip
      have hE := ite_t hE c_2
      have ho := ite_tP ho c_2
      refine lv_aload_n X.1 X.2.1 dX12_clause_58 rfl (lv_at hl 1 rfl) ?_
      have ho67 := ho.1
      have ho := ho.2
      refine r_ei I (r_runV X I pk_X12_look (c12_look l G _ _ ho67) lm_X12_134 (by decide) (cl_12 rfl) rfl rfl rfl hl.1 rfl (Nat.le_of_ble_eq_true rfl) dX12_clause_59 ⟨Nat.le_of_ble_eq_true rfl, Nat.le_of_ble_eq_true rfl⟩ ⟨Nat.le_refl 0, Nat.le_refl 0⟩) (fun H locs I => ?_)
      refine lv_bipush (v := 58) X.1 X.2.1 dX12_clause_62 (by decide) ?_
      refine lv_icmp_eq (tgt := 71) X.1 X.2.1 dX12_clause_64 (by decide) (fun c_25 => ?_) (fun c_25 => ?_)
      · skip
        have hE := ite_t hE c_25
        have ho := ite_tP ho c_25
        refine lv_aload_n X.1 X.2.1 dX12_clause_71 rfl (lv_at hl 1 rfl) ?_
        refine lv_dup X.1 X.2.1 dX12_clause_72 rfl ?_
        refine g12_3 X I (k := 123) (by decide) rfl lf_X12_115 dX12_clause_73 ?_
        refine lv_iconst (v := 1) X.1 X.2.1 dX12_clause_76 (by decide) ?_
        refine lv_iadd X.1 X.2.1 dX12_clause_77 ?_
        refine p12_3 X I (k := 123) (by decide) rfl lf_X12_115 dX12_clause_78 (fun H locs I => ?_)
        refine lv_aload_n X.1 X.2.1 dX12_clause_81 rfl (lv_at hl 1 rfl) ?_
        refine g12_4 X I (k := 123) (by decide) rfl lf_X12_122 dX12_clause_82 ?_
        refine lv_iconst (v := (-1)) X.1 X.2.1 dX12_clause_85 (by decide) ?_
        refine lv_icmp_eq (tgt := 90) X.1 X.2.1 dX12_clause_86 (by decide) (fun c_26 => ?_) (fun c_26 => ?_)
        · skip
          have hE := ite_t hE c_26
          have ho := ite_tP ho c_26
          refine lv_aload_n X.1 X.2.1 dX12_clause_90 rfl (lv_at hl 1 rfl) ?_
          refine g12_10 X I (k := 123) (by decide) rfl lf_X12_25 dX12_clause_91 ?_
          refine lv_iload_n X.1 X.2.1 dX12_clause_94 rfl (lv_at hl 0 rfl) ?_
          refine lv_aload_n X.1 X.2.1 dX12_clause_95 rfl (lv_at hl 1 rfl) ?_
          refine g12_8 X I (k := 123) (by decide) rfl lf_X12_19 dX12_clause_96 ?_
          refine lv_aload_n X.1 X.2.1 dX12_clause_99 rfl (lv_at hl 1 rfl) ?_
          refine g12_14 X I (k := 123) (by decide) rfl lf_X12_125 dX12_clause_100 ?_
          have ho68 := ho.1
          have ho := ho.2
          refine r_ald X I (k := 127) (n := 5) (by decide) rfl ho68 dX12_clause_103 ?_
          have ho69 := ho.1
          have ho := ho.2
          refine r_ast X I (k := 129) (n := 700) (by decide) rfl ho69 dX12_clause_104 (fun H locs I => ?_)
          refine lv_aload_n X.1 X.2.1 dX12_clause_105 rfl (lv_at hl 1 rfl) ?_
          have ho70 := ho.1
          have ho := ho.2
          refine r_ei I (r_runV X I pk_X12_look (c12_look l G _ _ ho70) lm_X12_134 (by decide) (cl_12 rfl) rfl rfl rfl hl.1 rfl (Nat.le_of_ble_eq_true rfl) dX12_clause_106 ⟨Nat.le_of_ble_eq_true rfl, Nat.le_of_ble_eq_true rfl⟩ ⟨Nat.le_refl 0, Nat.le_refl 0⟩) (fun H locs I => ?_)
          refine lv_bipush (v := 33) X.1 X.2.1 dX12_clause_109 (by decide) ?_
          refine lv_icmp_eq (tgt := 123) X.1 X.2.1 dX12_clause_111 (by decide) (fun c_27 => ?_) (fun c_27 => ?_)
          · skip
            have hE := ite_t hE c_27
            have ho := ite_tP ho c_27
            refine lv_iconst (v := 1) X.1 X.2.1 dX12_clause_123 (by decide) ?_
            refine lv_goto (tgt := 128) X.1 X.2.1 dX12_clause_124 (by decide) ?_
            refine lv_istore_n (lv' := [(2, .int _), (1, .int _), (0, .ref _)]) X.1 X.2.1 dX12_clause_128 rfl hl (by decide) rfl (fun ls hl => ?_)
            refine lv_iload_n X.1 X.2.1 dX12_clause_129 rfl (lv_at hl 0 rfl) ?_
            refine lv_if_eq (tgt := 140) X.1 X.2.1 dX12_clause_130 (by decide) (fun c_28 => ?_) (fun c_28 => ?_)
            · exact absurd c_28 (by decide)
            · skip
              refine lv_aload_n X.1 X.2.1 dX12_clause_133 rfl (lv_at hl 2 rfl) ?_
              have ho71 := ho.1
              have ho := ho.2
              refine r_ev I (r_runV X I pk_X12_condition (c12_conditionR l G _ _ ho71) lm_X12_174 (by decide) (cl_12 rfl) rfl rfl rfl hl.1 rfl (Nat.le_of_ble_eq_true rfl) dX12_clause_134 ⟨Nat.le_of_ble_eq_true rfl, Nat.le_of_ble_eq_true rfl⟩ ⟨Nat.le_refl 0, Nat.le_refl 0⟩) (fun H locs I => ?_)
              refine lv_goto (tgt := 184) X.1 X.2.1 dX12_clause_137 (by decide) ?_
              refine lv_aload_n X.1 X.2.1 dX12_clause_184 rfl (lv_at hl 2 rfl) ?_
              refine g12_11 X I (k := 123) (by decide) rfl lf_X12_28 dX12_clause_185 ?_
              refine lv_iload_n X.1 X.2.1 dX12_clause_188 rfl (lv_at hl 1 rfl) ?_
              refine lv_aload_n X.1 X.2.1 dX12_clause_189 rfl (lv_at hl 2 rfl) ?_
              refine g12_10 X I (k := 123) (by decide) rfl lf_X12_25 dX12_clause_190 ?_
              refine lv_iload_n X.1 X.2.1 dX12_clause_193 rfl (lv_at hl 1 rfl) ?_
              have ho72 := ho.1
              have ho := ho.2
              refine r_ald X I (k := 129) (n := 700) (by decide) rfl ho72 dX12_clause_194 ?_
              have ho73 := ho.1
              have ho := ho.2
              refine r_ast X I (k := 130) (n := 700) (by decide) rfl ho73 dX12_clause_195 (fun H locs I => ?_)
              refine lv_iload_n X.1 X.2.1 dX12_clause_196 rfl (lv_at hl 0 rfl) ?_
              refine lv_if_eq (tgt := 251) X.1 X.2.1 dX12_clause_197 (by decide) (fun c_29 => ?_) (fun c_29 => ?_)
              · exact absurd c_29 (by decide)
              · skip
                refine lv_aload_n X.1 X.2.1 dX12_clause_200 rfl (lv_at hl 2 rfl) ?_
                refine g12_4 X I (k := 123) (by decide) rfl lf_X12_122 dX12_clause_201 ?_
                refine lv_iconst (v := (-1)) X.1 X.2.1 dX12_clause_204 (by decide) ?_
                refine lv_icmp_ne (tgt := 251) X.1 X.2.1 dX12_clause_205 (by decide) (fun c_30 => ?_) (fun c_30 => ?_)
                · skip
                  have hE := ite_f hE c_30
                  have ho := ite_fP ho c_30
                  refine lv_aload_n X.1 X.2.1 dX12_clause_251 rfl (lv_at hl 2 rfl) ?_
                  refine g12_12 X I (k := 123) (by decide) rfl lf_X12_31 dX12_clause_252 ?_
                  refine lv_iload_n X.1 X.2.1 dX12_clause_255 rfl (lv_at hl 1 rfl) ?_
                  refine lv_aload_n X.1 X.2.1 dX12_clause_256 rfl (lv_at hl 2 rfl) ?_
                  refine g12_8 X I (k := 123) (by decide) rfl lf_X12_19 dX12_clause_257 ?_
                  refine lv_aload_n X.1 X.2.1 dX12_clause_260 rfl (lv_at hl 2 rfl) ?_
                  refine g12_14 X I (k := 123) (by decide) rfl lf_X12_125 dX12_clause_261 ?_
                  have ho74 := ho.1
                  have ho := ho.2
                  refine r_ald X I (k := 127) (n := 5) (by decide) rfl ho74 dX12_clause_264 ?_
                  have ho75 := ho.1
                  have ho := ho.2
                  refine r_ast X I (k := 131) (n := 700) (by decide) rfl ho75 dX12_clause_265 (fun H locs I => ?_)
                  refine lv_aload_n X.1 X.2.1 dX12_clause_266 rfl (lv_at hl 2 rfl) ?_
                  refine g12_9 X I (k := 123) (by decide) rfl lf_X12_22 dX12_clause_267 ?_
                  refine lv_aload_n X.1 X.2.1 dX12_clause_270 rfl (lv_at hl 2 rfl) ?_
                  refine g12_14 X I (k := 123) (by decide) rfl lf_X12_125 dX12_clause_271 ?_
                  refine lv_dup2_11 X.1 X.2.1 dX12_clause_274 rfl rfl ?_
                  have ho76 := ho.1
                  have ho := ho.2
                  refine r_ald X I (k := 128) (n := 5) (by decide) rfl ho76 dX12_clause_275 ?_
                  refine lv_iconst (v := 1) X.1 X.2.1 dX12_clause_276 (by decide) ?_
                  refine lv_iadd X.1 X.2.1 dX12_clause_277 ?_
                  have ho77 := ho.1
                  have ho := ho.2
                  refine r_ast X I (k := 128) (n := 5) (by decide) rfl ho77 dX12_clause_278 (fun H locs I => ?_)
                  have h9 := hE
                  exact r_vret X I (e_v h9.symm rfl) dX12_clause_279
                · skip
                  have hE := ite_t hE c_30
                  have ho := ite_tP ho c_30
                  refine lv_aload_n X.1 X.2.1 dX12_clause_208 rfl (lv_at hl 2 rfl) ?_
                  have ho78 := ho.1
                  have ho := ho.2
                  refine r_ei I (r_runV X I pk_X12_look (c12_look l G _ _ ho78) lm_X12_134 (by decide) (cl_12 rfl) rfl rfl rfl hl.1 rfl (Nat.le_of_ble_eq_true rfl) dX12_clause_209 ⟨Nat.le_of_ble_eq_true rfl, Nat.le_of_ble_eq_true rfl⟩ ⟨Nat.le_refl 0, Nat.le_refl 0⟩) (fun H locs I => ?_)
                  refine lv_bipush (v := 63) X.1 X.2.1 dX12_clause_212 (by decide) ?_
                  refine lv_icmp_eq (tgt := 222) X.1 X.2.1 dX12_clause_214 (by decide) (fun c_31 => ?_) (fun c_31 => ?_)
                  · skip
                    have hE := ite_t hE c_31
                    have ho := ite_tP ho c_31
                    refine lv_aload_n X.1 X.2.1 dX12_clause_222 rfl (lv_at hl 2 rfl) ?_
                    refine lv_dup X.1 X.2.1 dX12_clause_223 rfl ?_
                    refine g12_3 X I (k := 123) (by decide) rfl lf_X12_115 dX12_clause_224 ?_
                    refine lv_iconst (v := 1) X.1 X.2.1 dX12_clause_227 (by decide) ?_
                    refine lv_iadd X.1 X.2.1 dX12_clause_228 ?_
                    refine p12_3 X I (k := 123) (by decide) rfl lf_X12_115 dX12_clause_229 (fun H locs I => ?_)
                    refine lv_aload_n X.1 X.2.1 dX12_clause_232 rfl (lv_at hl 2 rfl) ?_
                    refine g12_11 X I (k := 123) (by decide) rfl lf_X12_28 dX12_clause_233 ?_
                    refine lv_iload_n X.1 X.2.1 dX12_clause_236 rfl (lv_at hl 1 rfl) ?_
                    refine lv_aload_n X.1 X.2.1 dX12_clause_237 rfl (lv_at hl 2 rfl) ?_
                    refine g12_8 X I (k := 123) (by decide) rfl lf_X12_19 dX12_clause_238 ?_
                    refine lv_aload_n X.1 X.2.1 dX12_clause_241 rfl (lv_at hl 2 rfl) ?_
                    refine g12_14 X I (k := 123) (by decide) rfl lf_X12_125 dX12_clause_242 ?_
                    have ho79 := ho.1
                    have ho := ho.2
                    refine r_ald X I (k := 127) (n := 5) (by decide) rfl ho79 dX12_clause_245 ?_
                    have ho80 := ho.1
                    have ho := ho.2
                    refine r_ast X I (k := 130) (n := 700) (by decide) rfl ho80 dX12_clause_246 (fun H locs I => ?_)
                    refine lv_aload_n X.1 X.2.1 dX12_clause_247 rfl (lv_at hl 2 rfl) ?_
                    have ho81 := ho.1
                    have ho := ho.2
                    refine r_ev I (r_runV X I pk_X12_sum (c12_sumR l G _ _ ho81) lm_X12_155 (by decide) (cl_12 rfl) rfl rfl rfl hl.1 rfl (Nat.le_of_ble_eq_true rfl) dX12_clause_248 ⟨Nat.le_of_ble_eq_true rfl, Nat.le_of_ble_eq_true rfl⟩ ⟨Nat.le_refl 0, Nat.le_refl 0⟩) (fun H locs I => ?_)
                    refine lv_aload_n X.1 X.2.1 dX12_clause_251 rfl (lv_at hl 2 rfl) ?_
                    refine g12_12 X I (k := 123) (by decide) rfl lf_X12_31 dX12_clause_252 ?_
                    refine lv_iload_n X.1 X.2.1 dX12_clause_255 rfl (lv_at hl 1 rfl) ?_
                    refine lv_aload_n X.1 X.2.1 dX12_clause_256 rfl (lv_at hl 2 rfl) ?_
                    refine g12_8 X I (k := 123) (by decide) rfl lf_X12_19 dX12_clause_257 ?_
                    refine lv_aload_n X.1 X.2.1 dX12_clause_260 rfl (lv_at hl 2 rfl) ?_
                    refine g12_14 X I (k := 123) (by decide) rfl lf_X12_125 dX12_clause_261 ?_
                    have ho82 := ho.1
                    have ho := ho.2
                    refine r_ald X I (k := 127) (n := 5) (by decide) rfl ho82 dX12_clause_264 ?_
                    have ho83 := ho.1
                    have ho := ho.2
                    refine r_ast X I (k := 131) (n := 700) (by decide) rfl ho83 dX12_clause_265 (fun H locs I => ?_)
                    refine lv_aload_n X.1 X.2.1 dX12_clause_266 rfl (lv_at hl 2 rfl) ?_
                    refine g12_9 X I (k := 123) (by decide) rfl lf_X12_22 dX12_clause_267 ?_
                    refine lv_aload_n X.1 X.2.1 dX12_clause_270 rfl (lv_at hl 2 rfl) ?_
                    refine g12_14 X I (k := 123) (by decide) rfl lf_X12_125 dX12_clause_271 ?_
                    refine lv_dup2_11 X.1 X.2.1 dX12_clause_274 rfl rfl ?_
                    have ho84 := ho.1
                    have ho := ho.2
                    refine r_ald X I (k := 128) (n := 5) (by decide) rfl ho84 dX12_clause_275 ?_
                    refine lv_iconst (v := 1) X.1 X.2.1 dX12_clause_276 (by decide) ?_
                    refine lv_iadd X.1 X.2.1 dX12_clause_277 ?_
                    have ho85 := ho.1
                    have ho := ho.2
                    refine r_ast X I (k := 128) (n := 5) (by decide) rfl ho85 dX12_clause_278 (fun H locs I => ?_)
                    have h9 := hE
                    exact r_vret X I (e_v h9.symm rfl) dX12_clause_279
                  · skip
                    have hE := ite_f hE c_31
                    have ho := ite_fP ho c_31
                    refine lv_aload_n X.1 X.2.1 dX12_clause_217 rfl (lv_at hl 2 rfl) ?_
                    refine r_ev I (r_runV X I pk_X12_bad (c12_bad l G _ _) lm_X12_131 (by decide) (cl_12 rfl) rfl rfl rfl hl.1 rfl (Nat.le_of_ble_eq_true rfl) dX12_clause_218 ⟨Nat.le_of_ble_eq_true rfl, Nat.le_of_ble_eq_true rfl⟩ ⟨Nat.le_refl 0, Nat.le_refl 0⟩) (fun H locs I => ?_)
                    have h9 := hE
                    exact r_vret X I (e_v h9.symm rfl) dX12_clause_221
          · skip
            have hE := ite_f hE c_27
            have ho := ite_fP ho c_27
            refine lv_aload_n X.1 X.2.1 dX12_clause_114 rfl (lv_at hl 1 rfl) ?_
            have ho86 := ho.1
            have ho := ho.2
            refine r_ei I (r_runV X I pk_X12_look (c12_look l G _ _ ho86) lm_X12_134 (by decide) (cl_12 rfl) rfl rfl rfl hl.1 rfl (Nat.le_of_ble_eq_true rfl) dX12_clause_115 ⟨Nat.le_of_ble_eq_true rfl, Nat.le_of_ble_eq_true rfl⟩ ⟨Nat.le_refl 0, Nat.le_refl 0⟩) (fun H locs I => ?_)
            refine lv_bipush (v := 40) X.1 X.2.1 dX12_clause_118 (by decide) ?_
            refine lv_icmp_ne (tgt := 127) X.1 X.2.1 dX12_clause_120 (by decide) (fun c_32 => ?_) (fun c_32 => ?_)
            · skip
              have hE := ite_f hE c_32
              have ho := ite_fP ho c_32
              refine lv_iconst (v := 0) X.1 X.2.1 dX12_clause_127 (by decide) ?_
              refine lv_istore_n (lv' := [(2, .int _), (1, .int _), (0, .ref _)]) X.1 X.2.1 dX12_clause_128 rfl hl (by decide) rfl (fun ls hl => ?_)
              refine lv_iload_n X.1 X.2.1 dX12_clause_129 rfl (lv_at hl 0 rfl) ?_
              refine lv_if_eq (tgt := 140) X.1 X.2.1 dX12_clause_130 (by decide) (fun c_33 => ?_) (fun c_33 => ?_)
              · skip
                refine lv_aload_n X.1 X.2.1 dX12_clause_140 rfl (lv_at hl 2 rfl) ?_
                have ho87 := ho.1
                have ho := ho.2
                refine r_ev I (r_runV X I pk_X12_sum (c12_sumR l G _ _ ho87) lm_X12_155 (by decide) (cl_12 rfl) rfl rfl rfl hl.1 rfl (Nat.le_of_ble_eq_true rfl) dX12_clause_141 ⟨Nat.le_of_ble_eq_true rfl, Nat.le_of_ble_eq_true rfl⟩ ⟨Nat.le_refl 0, Nat.le_refl 0⟩) (fun H locs I => ?_)
                refine lv_aload_n X.1 X.2.1 dX12_clause_144 rfl (lv_at hl 2 rfl) ?_
                refine g12_4 X I (k := 123) (by decide) rfl lf_X12_122 dX12_clause_145 ?_
                refine lv_iconst (v := (-1)) X.1 X.2.1 dX12_clause_148 (by decide) ?_
                refine lv_icmp_ne (tgt := 166) X.1 X.2.1 dX12_clause_149 (by decide) (fun c_34 => ?_) (fun c_34 => ?_)
                · skip
                  have hE := ite_f hE c_34
                  have ho := ite_fP ho c_34
                  refine lv_iconst (v := 0) X.1 X.2.1 dX12_clause_166 (by decide) ?_
                  refine lv_istore_n (lv' := [(2, .int _), (1, .int _), (0, .ref _)]) X.1 X.2.1 dX12_clause_167 rfl hl (by decide) rfl (fun ls hl => ?_)
                  refine lv_iload_n X.1 X.2.1 dX12_clause_168 rfl (lv_at hl 0 rfl) ?_
                  refine lv_if_eq (tgt := 184) X.1 X.2.1 dX12_clause_169 (by decide) (fun c_35 => ?_) (fun c_35 => ?_)
                  · skip
                    refine lv_aload_n X.1 X.2.1 dX12_clause_184 rfl (lv_at hl 2 rfl) ?_
                    refine g12_11 X I (k := 123) (by decide) rfl lf_X12_28 dX12_clause_185 ?_
                    refine lv_iload_n X.1 X.2.1 dX12_clause_188 rfl (lv_at hl 1 rfl) ?_
                    refine lv_aload_n X.1 X.2.1 dX12_clause_189 rfl (lv_at hl 2 rfl) ?_
                    refine g12_10 X I (k := 123) (by decide) rfl lf_X12_25 dX12_clause_190 ?_
                    refine lv_iload_n X.1 X.2.1 dX12_clause_193 rfl (lv_at hl 1 rfl) ?_
                    have ho88 := ho.1
                    have ho := ho.2
                    refine r_ald X I (k := 129) (n := 700) (by decide) rfl ho88 dX12_clause_194 ?_
                    have ho89 := ho.1
                    have ho := ho.2
                    refine r_ast X I (k := 130) (n := 700) (by decide) rfl ho89 dX12_clause_195 (fun H locs I => ?_)
                    refine lv_iload_n X.1 X.2.1 dX12_clause_196 rfl (lv_at hl 0 rfl) ?_
                    refine lv_if_eq (tgt := 251) X.1 X.2.1 dX12_clause_197 (by decide) (fun c_36 => ?_) (fun c_36 => ?_)
                    · skip
                      refine lv_aload_n X.1 X.2.1 dX12_clause_251 rfl (lv_at hl 2 rfl) ?_
                      refine g12_12 X I (k := 123) (by decide) rfl lf_X12_31 dX12_clause_252 ?_
                      refine lv_iload_n X.1 X.2.1 dX12_clause_255 rfl (lv_at hl 1 rfl) ?_
                      refine lv_aload_n X.1 X.2.1 dX12_clause_256 rfl (lv_at hl 2 rfl) ?_
                      refine g12_8 X I (k := 123) (by decide) rfl lf_X12_19 dX12_clause_257 ?_
                      refine lv_aload_n X.1 X.2.1 dX12_clause_260 rfl (lv_at hl 2 rfl) ?_
                      refine g12_14 X I (k := 123) (by decide) rfl lf_X12_125 dX12_clause_261 ?_
                      have ho90 := ho.1
                      have ho := ho.2
                      refine r_ald X I (k := 127) (n := 5) (by decide) rfl ho90 dX12_clause_264 ?_
                      have ho91 := ho.1
                      have ho := ho.2
                      refine r_ast X I (k := 131) (n := 700) (by decide) rfl ho91 dX12_clause_265 (fun H locs I => ?_)
                      refine lv_aload_n X.1 X.2.1 dX12_clause_266 rfl (lv_at hl 2 rfl) ?_
                      refine g12_9 X I (k := 123) (by decide) rfl lf_X12_22 dX12_clause_267 ?_
                      refine lv_aload_n X.1 X.2.1 dX12_clause_270 rfl (lv_at hl 2 rfl) ?_
                      refine g12_14 X I (k := 123) (by decide) rfl lf_X12_125 dX12_clause_271 ?_
                      refine lv_dup2_11 X.1 X.2.1 dX12_clause_274 rfl rfl ?_
                      have ho92 := ho.1
                      have ho := ho.2
                      refine r_ald X I (k := 128) (n := 5) (by decide) rfl ho92 dX12_clause_275 ?_
                      refine lv_iconst (v := 1) X.1 X.2.1 dX12_clause_276 (by decide) ?_
                      refine lv_iadd X.1 X.2.1 dX12_clause_277 ?_
                      have ho93 := ho.1
                      have ho := ho.2
                      refine r_ast X I (k := 128) (n := 5) (by decide) rfl ho93 dX12_clause_278 (fun H locs I => ?_)
                      have h9 := hE
                      exact r_vret X I (e_v h9.symm rfl) dX12_clause_279
                    · exact absurd c_36 (by decide)
                  · exact absurd c_35 (by decide)
                · skip
                  have hE := ite_t hE c_34
                  have ho := ite_tP ho c_34
                  refine lv_aload_n X.1 X.2.1 dX12_clause_152 rfl (lv_at hl 2 rfl) ?_
                  have ho94 := ho.1
                  have ho := ho.2
                  refine r_ei I (r_runV X I pk_X12_look (c12_look l G _ _ ho94) lm_X12_134 (by decide) (cl_12 rfl) rfl rfl rfl hl.1 rfl (Nat.le_of_ble_eq_true rfl) dX12_clause_153 ⟨Nat.le_of_ble_eq_true rfl, Nat.le_of_ble_eq_true rfl⟩ ⟨Nat.le_refl 0, Nat.le_refl 0⟩) (fun H locs I => ?_)
                  refine r_ei I (r_runS X I pk_X12_isSign (c12_isSign l G _ _ _) lm_X12_168 rfl hl.1 rfl (Nat.le_of_ble_eq_true rfl) dX12_clause_156 ⟨Nat.le_of_ble_eq_true rfl, Nat.le_of_ble_eq_true rfl⟩ ⟨Nat.le_refl 0, Nat.le_refl 0⟩) (fun H locs I => ?_)
                  refine lv_if_eq (tgt := 166) X.1 X.2.1 dX12_clause_159 (by decide) (fun c_37 => ?_) (fun c_37 => ?_)
                  · skip
                    have hE := ite_f hE (b2i_n c_37)
                    have ho := ite_fP ho (b2i_n c_37)
                    refine lv_iconst (v := 0) X.1 X.2.1 dX12_clause_166 (by decide) ?_
                    refine lv_istore_n (lv' := [(2, .int _), (1, .int _), (0, .ref _)]) X.1 X.2.1 dX12_clause_167 rfl hl (by decide) rfl (fun ls hl => ?_)
                    refine lv_iload_n X.1 X.2.1 dX12_clause_168 rfl (lv_at hl 0 rfl) ?_
                    refine lv_if_eq (tgt := 184) X.1 X.2.1 dX12_clause_169 (by decide) (fun c_38 => ?_) (fun c_38 => ?_)
                    · skip
                      refine lv_aload_n X.1 X.2.1 dX12_clause_184 rfl (lv_at hl 2 rfl) ?_
                      refine g12_11 X I (k := 123) (by decide) rfl lf_X12_28 dX12_clause_185 ?_
                      refine lv_iload_n X.1 X.2.1 dX12_clause_188 rfl (lv_at hl 1 rfl) ?_
                      refine lv_aload_n X.1 X.2.1 dX12_clause_189 rfl (lv_at hl 2 rfl) ?_
                      refine g12_10 X I (k := 123) (by decide) rfl lf_X12_25 dX12_clause_190 ?_
                      refine lv_iload_n X.1 X.2.1 dX12_clause_193 rfl (lv_at hl 1 rfl) ?_
                      have ho95 := ho.1
                      have ho := ho.2
                      refine r_ald X I (k := 129) (n := 700) (by decide) rfl ho95 dX12_clause_194 ?_
                      have ho96 := ho.1
                      have ho := ho.2
                      refine r_ast X I (k := 130) (n := 700) (by decide) rfl ho96 dX12_clause_195 (fun H locs I => ?_)
                      refine lv_iload_n X.1 X.2.1 dX12_clause_196 rfl (lv_at hl 0 rfl) ?_
                      refine lv_if_eq (tgt := 251) X.1 X.2.1 dX12_clause_197 (by decide) (fun c_39 => ?_) (fun c_39 => ?_)
                      · skip
                        refine lv_aload_n X.1 X.2.1 dX12_clause_251 rfl (lv_at hl 2 rfl) ?_
                        refine g12_12 X I (k := 123) (by decide) rfl lf_X12_31 dX12_clause_252 ?_
                        refine lv_iload_n X.1 X.2.1 dX12_clause_255 rfl (lv_at hl 1 rfl) ?_
                        refine lv_aload_n X.1 X.2.1 dX12_clause_256 rfl (lv_at hl 2 rfl) ?_
                        refine g12_8 X I (k := 123) (by decide) rfl lf_X12_19 dX12_clause_257 ?_
                        refine lv_aload_n X.1 X.2.1 dX12_clause_260 rfl (lv_at hl 2 rfl) ?_
                        refine g12_14 X I (k := 123) (by decide) rfl lf_X12_125 dX12_clause_261 ?_
                        have ho97 := ho.1
                        have ho := ho.2
                        refine r_ald X I (k := 127) (n := 5) (by decide) rfl ho97 dX12_clause_264 ?_
                        have ho98 := ho.1
                        have ho := ho.2
                        refine r_ast X I (k := 131) (n := 700) (by decide) rfl ho98 dX12_clause_265 (fun H locs I => ?_)
                        refine lv_aload_n X.1 X.2.1 dX12_clause_266 rfl (lv_at hl 2 rfl) ?_
                        refine g12_9 X I (k := 123) (by decide) rfl lf_X12_22 dX12_clause_267 ?_
                        refine lv_aload_n X.1 X.2.1 dX12_clause_270 rfl (lv_at hl 2 rfl) ?_
                        refine g12_14 X I (k := 123) (by decide) rfl lf_X12_125 dX12_clause_271 ?_
                        refine lv_dup2_11 X.1 X.2.1 dX12_clause_274 rfl rfl ?_
                        have ho99 := ho.1
                        have ho := ho.2
                        refine r_ald X I (k := 128) (n := 5) (by decide) rfl ho99 dX12_clause_275 ?_
                        refine lv_iconst (v := 1) X.1 X.2.1 dX12_clause_276 (by decide) ?_
                        refine lv_iadd X.1 X.2.1 dX12_clause_277 ?_
                        have ho100 := ho.1
                        have ho := ho.2
                        refine r_ast X I (k := 128) (n := 5) (by decide) rfl ho100 dX12_clause_278 (fun H locs I => ?_)
                        have h9 := hE
                        exact r_vret X I (e_v h9.symm rfl) dX12_clause_279
                      · exact absurd c_39 (by decide)
                    · exact absurd c_38 (by decide)
                  · skip
                    have hE := ite_t hE (b2i_y c_37)
                    have ho := ite_tP ho (b2i_y c_37)
                    refine lv_iconst (v := 1) X.1 X.2.1 dX12_clause_162 (by decide) ?_
                    refine lv_goto (tgt := 167) X.1 X.2.1 dX12_clause_163 (by decide) ?_
                    refine lv_istore_n (lv' := [(2, .int _), (1, .int _), (0, .ref _)]) X.1 X.2.1 dX12_clause_167 rfl hl (by decide) rfl (fun ls hl => ?_)
                    refine lv_iload_n X.1 X.2.1 dX12_clause_168 rfl (lv_at hl 0 rfl) ?_
                    refine lv_if_eq (tgt := 184) X.1 X.2.1 dX12_clause_169 (by decide) (fun c_40 => ?_) (fun c_40 => ?_)
                    · exact absurd c_40 (by decide)
                    · skip
                      refine lv_aload_n X.1 X.2.1 dX12_clause_172 rfl (lv_at hl 2 rfl) ?_
                      have ho101 := ho.1
                      have ho := ho.2
                      refine r_ev I (r_runV X I pk_X12_compare (c12_compare l G _ _ ho101) lm_X12_177 (by decide) (cl_12 rfl) rfl rfl rfl hl.1 rfl (Nat.le_of_ble_eq_true rfl) dX12_clause_173 ⟨Nat.le_of_ble_eq_true rfl, Nat.le_of_ble_eq_true rfl⟩ ⟨Nat.le_refl 0, Nat.le_refl 0⟩) (fun H locs I => ?_)
                      refine lv_aload_n X.1 X.2.1 dX12_clause_176 rfl (lv_at hl 2 rfl) ?_
                      have ho102 := ho.1
                      have ho := ho.2
                      refine r_ev I (r_runV X I pk_X12_goOnAnd (c12_goOnAndR l G _ _ ho102) lm_X12_180 (by decide) (cl_12 rfl) rfl rfl rfl hl.1 rfl (Nat.le_of_ble_eq_true rfl) dX12_clause_177 ⟨Nat.le_of_ble_eq_true rfl, Nat.le_of_ble_eq_true rfl⟩ ⟨Nat.le_refl 0, Nat.le_refl 0⟩) (fun H locs I => ?_)
                      refine lv_aload_n X.1 X.2.1 dX12_clause_180 rfl (lv_at hl 2 rfl) ?_
                      have ho103 := ho.1
                      have ho := ho.2
                      refine r_ev I (r_runV X I pk_X12_goOnOr (c12_goOnOrR l G _ _ ho103) lm_X12_183 (by decide) (cl_12 rfl) rfl rfl rfl hl.1 rfl (Nat.le_of_ble_eq_true rfl) dX12_clause_181 ⟨Nat.le_of_ble_eq_true rfl, Nat.le_of_ble_eq_true rfl⟩ ⟨Nat.le_refl 0, Nat.le_refl 0⟩) (fun H locs I => ?_)
                      refine lv_aload_n X.1 X.2.1 dX12_clause_184 rfl (lv_at hl 2 rfl) ?_
                      refine g12_11 X I (k := 123) (by decide) rfl lf_X12_28 dX12_clause_185 ?_
                      refine lv_iload_n X.1 X.2.1 dX12_clause_188 rfl (lv_at hl 1 rfl) ?_
                      refine lv_aload_n X.1 X.2.1 dX12_clause_189 rfl (lv_at hl 2 rfl) ?_
                      refine g12_10 X I (k := 123) (by decide) rfl lf_X12_25 dX12_clause_190 ?_
                      refine lv_iload_n X.1 X.2.1 dX12_clause_193 rfl (lv_at hl 1 rfl) ?_
                      have ho104 := ho.1
                      have ho := ho.2
                      refine r_ald X I (k := 129) (n := 700) (by decide) rfl ho104 dX12_clause_194 ?_
                      have ho105 := ho.1
                      have ho := ho.2
                      refine r_ast X I (k := 130) (n := 700) (by decide) rfl ho105 dX12_clause_195 (fun H locs I => ?_)
                      refine lv_iload_n X.1 X.2.1 dX12_clause_196 rfl (lv_at hl 0 rfl) ?_
                      refine lv_if_eq (tgt := 251) X.1 X.2.1 dX12_clause_197 (by decide) (fun c_41 => ?_) (fun c_41 => ?_)
                      · exact absurd c_41 (by decide)
                      · skip
                        refine lv_aload_n X.1 X.2.1 dX12_clause_200 rfl (lv_at hl 2 rfl) ?_
                        refine g12_4 X I (k := 123) (by decide) rfl lf_X12_122 dX12_clause_201 ?_
                        refine lv_iconst (v := (-1)) X.1 X.2.1 dX12_clause_204 (by decide) ?_
                        refine lv_icmp_ne (tgt := 251) X.1 X.2.1 dX12_clause_205 (by decide) (fun c_42 => ?_) (fun c_42 => ?_)
                        · skip
                          have hE := ite_f hE c_42
                          have ho := ite_fP ho c_42
                          refine lv_aload_n X.1 X.2.1 dX12_clause_251 rfl (lv_at hl 2 rfl) ?_
                          refine g12_12 X I (k := 123) (by decide) rfl lf_X12_31 dX12_clause_252 ?_
                          refine lv_iload_n X.1 X.2.1 dX12_clause_255 rfl (lv_at hl 1 rfl) ?_
                          refine lv_aload_n X.1 X.2.1 dX12_clause_256 rfl (lv_at hl 2 rfl) ?_
                          refine g12_8 X I (k := 123) (by decide) rfl lf_X12_19 dX12_clause_257 ?_
                          refine lv_aload_n X.1 X.2.1 dX12_clause_260 rfl (lv_at hl 2 rfl) ?_
                          refine g12_14 X I (k := 123) (by decide) rfl lf_X12_125 dX12_clause_261 ?_
                          have ho106 := ho.1
                          have ho := ho.2
                          refine r_ald X I (k := 127) (n := 5) (by decide) rfl ho106 dX12_clause_264 ?_
                          have ho107 := ho.1
                          have ho := ho.2
                          refine r_ast X I (k := 131) (n := 700) (by decide) rfl ho107 dX12_clause_265 (fun H locs I => ?_)
                          refine lv_aload_n X.1 X.2.1 dX12_clause_266 rfl (lv_at hl 2 rfl) ?_
                          refine g12_9 X I (k := 123) (by decide) rfl lf_X12_22 dX12_clause_267 ?_
                          refine lv_aload_n X.1 X.2.1 dX12_clause_270 rfl (lv_at hl 2 rfl) ?_
                          refine g12_14 X I (k := 123) (by decide) rfl lf_X12_125 dX12_clause_271 ?_
                          refine lv_dup2_11 X.1 X.2.1 dX12_clause_274 rfl rfl ?_
                          have ho108 := ho.1
                          have ho := ho.2
                          refine r_ald X I (k := 128) (n := 5) (by decide) rfl ho108 dX12_clause_275 ?_
                          refine lv_iconst (v := 1) X.1 X.2.1 dX12_clause_276 (by decide) ?_
                          refine lv_iadd X.1 X.2.1 dX12_clause_277 ?_
                          have ho109 := ho.1
                          have ho := ho.2
                          refine r_ast X I (k := 128) (n := 5) (by decide) rfl ho109 dX12_clause_278 (fun H locs I => ?_)
                          have h9 := hE
                          exact r_vret X I (e_v h9.symm rfl) dX12_clause_279
                        · skip
                          have hE := ite_t hE c_42
                          have ho := ite_tP ho c_42
                          refine lv_aload_n X.1 X.2.1 dX12_clause_208 rfl (lv_at hl 2 rfl) ?_
                          have ho110 := ho.1
                          have ho := ho.2
                          refine r_ei I (r_runV X I pk_X12_look (c12_look l G _ _ ho110) lm_X12_134 (by decide) (cl_12 rfl) rfl rfl rfl hl.1 rfl (Nat.le_of_ble_eq_true rfl) dX12_clause_209 ⟨Nat.le_of_ble_eq_true rfl, Nat.le_of_ble_eq_true rfl⟩ ⟨Nat.le_refl 0, Nat.le_refl 0⟩) (fun H locs I => ?_)
                          refine lv_bipush (v := 63) X.1 X.2.1 dX12_clause_212 (by decide) ?_
                          refine lv_icmp_eq (tgt := 222) X.1 X.2.1 dX12_clause_214 (by decide) (fun c_43 => ?_) (fun c_43 => ?_)
                          · skip
                            have hE := ite_t hE c_43
                            have ho := ite_tP ho c_43
                            refine lv_aload_n X.1 X.2.1 dX12_clause_222 rfl (lv_at hl 2 rfl) ?_
                            refine lv_dup X.1 X.2.1 dX12_clause_223 rfl ?_
                            refine g12_3 X I (k := 123) (by decide) rfl lf_X12_115 dX12_clause_224 ?_
                            refine lv_iconst (v := 1) X.1 X.2.1 dX12_clause_227 (by decide) ?_
                            refine lv_iadd X.1 X.2.1 dX12_clause_228 ?_
                            refine p12_3 X I (k := 123) (by decide) rfl lf_X12_115 dX12_clause_229 (fun H locs I => ?_)
                            refine lv_aload_n X.1 X.2.1 dX12_clause_232 rfl (lv_at hl 2 rfl) ?_
                            refine g12_11 X I (k := 123) (by decide) rfl lf_X12_28 dX12_clause_233 ?_
                            refine lv_iload_n X.1 X.2.1 dX12_clause_236 rfl (lv_at hl 1 rfl) ?_
                            refine lv_aload_n X.1 X.2.1 dX12_clause_237 rfl (lv_at hl 2 rfl) ?_
                            refine g12_8 X I (k := 123) (by decide) rfl lf_X12_19 dX12_clause_238 ?_
                            refine lv_aload_n X.1 X.2.1 dX12_clause_241 rfl (lv_at hl 2 rfl) ?_
                            refine g12_14 X I (k := 123) (by decide) rfl lf_X12_125 dX12_clause_242 ?_
                            have ho111 := ho.1
                            have ho := ho.2
                            refine r_ald X I (k := 127) (n := 5) (by decide) rfl ho111 dX12_clause_245 ?_
                            have ho112 := ho.1
                            have ho := ho.2
                            refine r_ast X I (k := 130) (n := 700) (by decide) rfl ho112 dX12_clause_246 (fun H locs I => ?_)
                            refine lv_aload_n X.1 X.2.1 dX12_clause_247 rfl (lv_at hl 2 rfl) ?_
                            have ho113 := ho.1
                            have ho := ho.2
                            refine r_ev I (r_runV X I pk_X12_sum (c12_sumR l G _ _ ho113) lm_X12_155 (by decide) (cl_12 rfl) rfl rfl rfl hl.1 rfl (Nat.le_of_ble_eq_true rfl) dX12_clause_248 ⟨Nat.le_of_ble_eq_true rfl, Nat.le_of_ble_eq_true rfl⟩ ⟨Nat.le_refl 0, Nat.le_refl 0⟩) (fun H locs I => ?_)
                            refine lv_aload_n X.1 X.2.1 dX12_clause_251 rfl (lv_at hl 2 rfl) ?_
                            refine g12_12 X I (k := 123) (by decide) rfl lf_X12_31 dX12_clause_252 ?_
                            refine lv_iload_n X.1 X.2.1 dX12_clause_255 rfl (lv_at hl 1 rfl) ?_
                            refine lv_aload_n X.1 X.2.1 dX12_clause_256 rfl (lv_at hl 2 rfl) ?_
                            refine g12_8 X I (k := 123) (by decide) rfl lf_X12_19 dX12_clause_257 ?_
                            refine lv_aload_n X.1 X.2.1 dX12_clause_260 rfl (lv_at hl 2 rfl) ?_
                            refine g12_14 X I (k := 123) (by decide) rfl lf_X12_125 dX12_clause_261 ?_
                            have ho114 := ho.1
                            have ho := ho.2
                            refine r_ald X I (k := 127) (n := 5) (by decide) rfl ho114 dX12_clause_264 ?_
                            have ho115 := ho.1
                            have ho := ho.2
                            refine r_ast X I (k := 131) (n := 700) (by decide) rfl ho115 dX12_clause_265 (fun H locs I => ?_)
                            refine lv_aload_n X.1 X.2.1 dX12_clause_266 rfl (lv_at hl 2 rfl) ?_
                            refine g12_9 X I (k := 123) (by decide) rfl lf_X12_22 dX12_clause_267 ?_
                            refine lv_aload_n X.1 X.2.1 dX12_clause_270 rfl (lv_at hl 2 rfl) ?_
                            refine g12_14 X I (k := 123) (by decide) rfl lf_X12_125 dX12_clause_271 ?_
                            refine lv_dup2_11 X.1 X.2.1 dX12_clause_274 rfl rfl ?_
                            have ho116 := ho.1
                            have ho := ho.2
                            refine r_ald X I (k := 128) (n := 5) (by decide) rfl ho116 dX12_clause_275 ?_
                            refine lv_iconst (v := 1) X.1 X.2.1 dX12_clause_276 (by decide) ?_
                            refine lv_iadd X.1 X.2.1 dX12_clause_277 ?_
                            have ho117 := ho.1
                            have ho := ho.2
                            refine r_ast X I (k := 128) (n := 5) (by decide) rfl ho117 dX12_clause_278 (fun H locs I => ?_)
                            have h9 := hE
                            exact r_vret X I (e_v h9.symm rfl) dX12_clause_279
                          · skip
                            have hE := ite_f hE c_43
                            have ho := ite_fP ho c_43
                            refine lv_aload_n X.1 X.2.1 dX12_clause_217 rfl (lv_at hl 2 rfl) ?_
                            refine r_ev I (r_runV X I pk_X12_bad (c12_bad l G _ _) lm_X12_131 (by decide) (cl_12 rfl) rfl rfl rfl hl.1 rfl (Nat.le_of_ble_eq_true rfl) dX12_clause_218 ⟨Nat.le_of_ble_eq_true rfl, Nat.le_of_ble_eq_true rfl⟩ ⟨Nat.le_refl 0, Nat.le_refl 0⟩) (fun H locs I => ?_)
                            have h9 := hE
                            exact r_vret X I (e_v h9.symm rfl) dX12_clause_221
              · exact absurd c_33 (by decide)
            · skip
              have hE := ite_t hE c_32
              have ho := ite_tP ho c_32
              refine lv_iconst (v := 1) X.1 X.2.1 dX12_clause_123 (by decide) ?_
              refine lv_goto (tgt := 128) X.1 X.2.1 dX12_clause_124 (by decide) ?_
              refine lv_istore_n (lv' := [(2, .int _), (1, .int _), (0, .ref _)]) X.1 X.2.1 dX12_clause_128 rfl hl (by decide) rfl (fun ls hl => ?_)
              refine lv_iload_n X.1 X.2.1 dX12_clause_129 rfl (lv_at hl 0 rfl) ?_
              refine lv_if_eq (tgt := 140) X.1 X.2.1 dX12_clause_130 (by decide) (fun c_44 => ?_) (fun c_44 => ?_)
              · exact absurd c_44 (by decide)
              · skip
                refine lv_aload_n X.1 X.2.1 dX12_clause_133 rfl (lv_at hl 2 rfl) ?_
                have ho118 := ho.1
                have ho := ho.2
                refine r_ev I (r_runV X I pk_X12_condition (c12_conditionR l G _ _ ho118) lm_X12_174 (by decide) (cl_12 rfl) rfl rfl rfl hl.1 rfl (Nat.le_of_ble_eq_true rfl) dX12_clause_134 ⟨Nat.le_of_ble_eq_true rfl, Nat.le_of_ble_eq_true rfl⟩ ⟨Nat.le_refl 0, Nat.le_refl 0⟩) (fun H locs I => ?_)
                refine lv_goto (tgt := 184) X.1 X.2.1 dX12_clause_137 (by decide) ?_
                refine lv_aload_n X.1 X.2.1 dX12_clause_184 rfl (lv_at hl 2 rfl) ?_
                refine g12_11 X I (k := 123) (by decide) rfl lf_X12_28 dX12_clause_185 ?_
                refine lv_iload_n X.1 X.2.1 dX12_clause_188 rfl (lv_at hl 1 rfl) ?_
                refine lv_aload_n X.1 X.2.1 dX12_clause_189 rfl (lv_at hl 2 rfl) ?_
                refine g12_10 X I (k := 123) (by decide) rfl lf_X12_25 dX12_clause_190 ?_
                refine lv_iload_n X.1 X.2.1 dX12_clause_193 rfl (lv_at hl 1 rfl) ?_
                have ho119 := ho.1
                have ho := ho.2
                refine r_ald X I (k := 129) (n := 700) (by decide) rfl ho119 dX12_clause_194 ?_
                have ho120 := ho.1
                have ho := ho.2
                refine r_ast X I (k := 130) (n := 700) (by decide) rfl ho120 dX12_clause_195 (fun H locs I => ?_)
                refine lv_iload_n X.1 X.2.1 dX12_clause_196 rfl (lv_at hl 0 rfl) ?_
                refine lv_if_eq (tgt := 251) X.1 X.2.1 dX12_clause_197 (by decide) (fun c_45 => ?_) (fun c_45 => ?_)
                · exact absurd c_45 (by decide)
                · skip
                  refine lv_aload_n X.1 X.2.1 dX12_clause_200 rfl (lv_at hl 2 rfl) ?_
                  refine g12_4 X I (k := 123) (by decide) rfl lf_X12_122 dX12_clause_201 ?_
                  refine lv_iconst (v := (-1)) X.1 X.2.1 dX12_clause_204 (by decide) ?_
                  refine lv_icmp_ne (tgt := 251) X.1 X.2.1 dX12_clause_205 (by decide) (fun c_46 => ?_) (fun c_46 => ?_)
                  · skip
                    have hE := ite_f hE c_46
                    have ho := ite_fP ho c_46
                    refine lv_aload_n X.1 X.2.1 dX12_clause_251 rfl (lv_at hl 2 rfl) ?_
                    refine g12_12 X I (k := 123) (by decide) rfl lf_X12_31 dX12_clause_252 ?_
                    refine lv_iload_n X.1 X.2.1 dX12_clause_255 rfl (lv_at hl 1 rfl) ?_
                    refine lv_aload_n X.1 X.2.1 dX12_clause_256 rfl (lv_at hl 2 rfl) ?_
                    refine g12_8 X I (k := 123) (by decide) rfl lf_X12_19 dX12_clause_257 ?_
                    refine lv_aload_n X.1 X.2.1 dX12_clause_260 rfl (lv_at hl 2 rfl) ?_
                    refine g12_14 X I (k := 123) (by decide) rfl lf_X12_125 dX12_clause_261 ?_
                    have ho121 := ho.1
                    have ho := ho.2
                    refine r_ald X I (k := 127) (n := 5) (by decide) rfl ho121 dX12_clause_264 ?_
                    have ho122 := ho.1
                    have ho := ho.2
                    refine r_ast X I (k := 131) (n := 700) (by decide) rfl ho122 dX12_clause_265 (fun H locs I => ?_)
                    refine lv_aload_n X.1 X.2.1 dX12_clause_266 rfl (lv_at hl 2 rfl) ?_
                    refine g12_9 X I (k := 123) (by decide) rfl lf_X12_22 dX12_clause_267 ?_
                    refine lv_aload_n X.1 X.2.1 dX12_clause_270 rfl (lv_at hl 2 rfl) ?_
                    refine g12_14 X I (k := 123) (by decide) rfl lf_X12_125 dX12_clause_271 ?_
                    refine lv_dup2_11 X.1 X.2.1 dX12_clause_274 rfl rfl ?_
                    have ho123 := ho.1
                    have ho := ho.2
                    refine r_ald X I (k := 128) (n := 5) (by decide) rfl ho123 dX12_clause_275 ?_
                    refine lv_iconst (v := 1) X.1 X.2.1 dX12_clause_276 (by decide) ?_
                    refine lv_iadd X.1 X.2.1 dX12_clause_277 ?_
                    have ho124 := ho.1
                    have ho := ho.2
                    refine r_ast X I (k := 128) (n := 5) (by decide) rfl ho124 dX12_clause_278 (fun H locs I => ?_)
                    have h9 := hE
                    exact r_vret X I (e_v h9.symm rfl) dX12_clause_279
                  · skip
                    have hE := ite_t hE c_46
                    have ho := ite_tP ho c_46
                    refine lv_aload_n X.1 X.2.1 dX12_clause_208 rfl (lv_at hl 2 rfl) ?_
                    have ho125 := ho.1
                    have ho := ho.2
                    refine r_ei I (r_runV X I pk_X12_look (c12_look l G _ _ ho125) lm_X12_134 (by decide) (cl_12 rfl) rfl rfl rfl hl.1 rfl (Nat.le_of_ble_eq_true rfl) dX12_clause_209 ⟨Nat.le_of_ble_eq_true rfl, Nat.le_of_ble_eq_true rfl⟩ ⟨Nat.le_refl 0, Nat.le_refl 0⟩) (fun H locs I => ?_)
                    refine lv_bipush (v := 63) X.1 X.2.1 dX12_clause_212 (by decide) ?_
                    refine lv_icmp_eq (tgt := 222) X.1 X.2.1 dX12_clause_214 (by decide) (fun c_47 => ?_) (fun c_47 => ?_)
                    · skip
                      have hE := ite_t hE c_47
                      have ho := ite_tP ho c_47
                      refine lv_aload_n X.1 X.2.1 dX12_clause_222 rfl (lv_at hl 2 rfl) ?_
                      refine lv_dup X.1 X.2.1 dX12_clause_223 rfl ?_
                      refine g12_3 X I (k := 123) (by decide) rfl lf_X12_115 dX12_clause_224 ?_
                      refine lv_iconst (v := 1) X.1 X.2.1 dX12_clause_227 (by decide) ?_
                      refine lv_iadd X.1 X.2.1 dX12_clause_228 ?_
                      refine p12_3 X I (k := 123) (by decide) rfl lf_X12_115 dX12_clause_229 (fun H locs I => ?_)
                      refine lv_aload_n X.1 X.2.1 dX12_clause_232 rfl (lv_at hl 2 rfl) ?_
                      refine g12_11 X I (k := 123) (by decide) rfl lf_X12_28 dX12_clause_233 ?_
                      refine lv_iload_n X.1 X.2.1 dX12_clause_236 rfl (lv_at hl 1 rfl) ?_
                      refine lv_aload_n X.1 X.2.1 dX12_clause_237 rfl (lv_at hl 2 rfl) ?_
                      refine g12_8 X I (k := 123) (by decide) rfl lf_X12_19 dX12_clause_238 ?_
                      refine lv_aload_n X.1 X.2.1 dX12_clause_241 rfl (lv_at hl 2 rfl) ?_
                      refine g12_14 X I (k := 123) (by decide) rfl lf_X12_125 dX12_clause_242 ?_
                      have ho126 := ho.1
                      have ho := ho.2
                      refine r_ald X I (k := 127) (n := 5) (by decide) rfl ho126 dX12_clause_245 ?_
                      have ho127 := ho.1
                      have ho := ho.2
                      refine r_ast X I (k := 130) (n := 700) (by decide) rfl ho127 dX12_clause_246 (fun H locs I => ?_)
                      refine lv_aload_n X.1 X.2.1 dX12_clause_247 rfl (lv_at hl 2 rfl) ?_
                      have ho128 := ho.1
                      have ho := ho.2
                      refine r_ev I (r_runV X I pk_X12_sum (c12_sumR l G _ _ ho128) lm_X12_155 (by decide) (cl_12 rfl) rfl rfl rfl hl.1 rfl (Nat.le_of_ble_eq_true rfl) dX12_clause_248 ⟨Nat.le_of_ble_eq_true rfl, Nat.le_of_ble_eq_true rfl⟩ ⟨Nat.le_refl 0, Nat.le_refl 0⟩) (fun H locs I => ?_)
                      refine lv_aload_n X.1 X.2.1 dX12_clause_251 rfl (lv_at hl 2 rfl) ?_
                      refine g12_12 X I (k := 123) (by decide) rfl lf_X12_31 dX12_clause_252 ?_
                      refine lv_iload_n X.1 X.2.1 dX12_clause_255 rfl (lv_at hl 1 rfl) ?_
                      refine lv_aload_n X.1 X.2.1 dX12_clause_256 rfl (lv_at hl 2 rfl) ?_
                      refine g12_8 X I (k := 123) (by decide) rfl lf_X12_19 dX12_clause_257 ?_
                      refine lv_aload_n X.1 X.2.1 dX12_clause_260 rfl (lv_at hl 2 rfl) ?_
                      refine g12_14 X I (k := 123) (by decide) rfl lf_X12_125 dX12_clause_261 ?_
                      have ho129 := ho.1
                      have ho := ho.2
                      refine r_ald X I (k := 127) (n := 5) (by decide) rfl ho129 dX12_clause_264 ?_
                      have ho130 := ho.1
                      have ho := ho.2
                      refine r_ast X I (k := 131) (n := 700) (by decide) rfl ho130 dX12_clause_265 (fun H locs I => ?_)
                      refine lv_aload_n X.1 X.2.1 dX12_clause_266 rfl (lv_at hl 2 rfl) ?_
                      refine g12_9 X I (k := 123) (by decide) rfl lf_X12_22 dX12_clause_267 ?_
                      refine lv_aload_n X.1 X.2.1 dX12_clause_270 rfl (lv_at hl 2 rfl) ?_
                      refine g12_14 X I (k := 123) (by decide) rfl lf_X12_125 dX12_clause_271 ?_
                      refine lv_dup2_11 X.1 X.2.1 dX12_clause_274 rfl rfl ?_
                      have ho131 := ho.1
                      have ho := ho.2
                      refine r_ald X I (k := 128) (n := 5) (by decide) rfl ho131 dX12_clause_275 ?_
                      refine lv_iconst (v := 1) X.1 X.2.1 dX12_clause_276 (by decide) ?_
                      refine lv_iadd X.1 X.2.1 dX12_clause_277 ?_
                      have ho132 := ho.1
                      have ho := ho.2
                      refine r_ast X I (k := 128) (n := 5) (by decide) rfl ho132 dX12_clause_278 (fun H locs I => ?_)
                      have h9 := hE
                      exact r_vret X I (e_v h9.symm rfl) dX12_clause_279
                    · skip
                      have hE := ite_f hE c_47
                      have ho := ite_fP ho c_47
                      refine lv_aload_n X.1 X.2.1 dX12_clause_217 rfl (lv_at hl 2 rfl) ?_
                      refine r_ev I (r_runV X I pk_X12_bad (c12_bad l G _ _) lm_X12_131 (by decide) (cl_12 rfl) rfl rfl rfl hl.1 rfl (Nat.le_of_ble_eq_true rfl) dX12_clause_218 ⟨Nat.le_of_ble_eq_true rfl, Nat.le_of_ble_eq_true rfl⟩ ⟨Nat.le_refl 0, Nat.le_refl 0⟩) (fun H locs I => ?_)
                      have h9 := hE
                      exact r_vret X I (e_v h9.symm rfl) dX12_clause_221
        · skip
          have hE := ite_f hE c_26
          have ho := ite_fP ho c_26
          have h9 := hE
          exact r_vret X I (e_v h9.symm rfl) dX12_clause_89
      · skip
        have hE := ite_f hE c_25
        have ho := ite_fP ho c_25
        refine lv_aload_n X.1 X.2.1 dX12_clause_67 rfl (lv_at hl 1 rfl) ?_
        refine r_ev I (r_runV X I pk_X12_bad (c12_bad l G _ _) lm_X12_131 (by decide) (cl_12 rfl) rfl rfl rfl hl.1 rfl (Nat.le_of_ble_eq_true rfl) dX12_clause_68 ⟨Nat.le_of_ble_eq_true rfl, Nat.le_of_ble_eq_true rfl⟩ ⟨Nat.le_refl 0, Nat.le_refl 0⟩) (fun H locs I => ?_)
        refine lv_aload_n X.1 X.2.1 dX12_clause_71 rfl (lv_at hl 1 rfl) ?_
        refine lv_dup X.1 X.2.1 dX12_clause_72 rfl ?_
        refine g12_3 X I (k := 123) (by decide) rfl lf_X12_115 dX12_clause_73 ?_
        refine lv_iconst (v := 1) X.1 X.2.1 dX12_clause_76 (by decide) ?_
        refine lv_iadd X.1 X.2.1 dX12_clause_77 ?_
        refine p12_3 X I (k := 123) (by decide) rfl lf_X12_115 dX12_clause_78 (fun H locs I => ?_)
        refine lv_aload_n X.1 X.2.1 dX12_clause_81 rfl (lv_at hl 1 rfl) ?_
        refine g12_4 X I (k := 123) (by decide) rfl lf_X12_122 dX12_clause_82 ?_
        refine lv_iconst (v := (-1)) X.1 X.2.1 dX12_clause_85 (by decide) ?_
        refine lv_icmp_eq (tgt := 90) X.1 X.2.1 dX12_clause_86 (by decide) (fun c_48 => ?_) (fun c_48 => ?_)
        · skip
          have hE := ite_t hE c_48
          have ho := ite_tP ho c_48
          refine lv_aload_n X.1 X.2.1 dX12_clause_90 rfl (lv_at hl 1 rfl) ?_
          refine g12_10 X I (k := 123) (by decide) rfl lf_X12_25 dX12_clause_91 ?_
          refine lv_iload_n X.1 X.2.1 dX12_clause_94 rfl (lv_at hl 0 rfl) ?_
          refine lv_aload_n X.1 X.2.1 dX12_clause_95 rfl (lv_at hl 1 rfl) ?_
          refine g12_8 X I (k := 123) (by decide) rfl lf_X12_19 dX12_clause_96 ?_
          refine lv_aload_n X.1 X.2.1 dX12_clause_99 rfl (lv_at hl 1 rfl) ?_
          refine g12_14 X I (k := 123) (by decide) rfl lf_X12_125 dX12_clause_100 ?_
          have ho133 := ho.1
          have ho := ho.2
          refine r_ald X I (k := 127) (n := 5) (by decide) rfl ho133 dX12_clause_103 ?_
          have ho134 := ho.1
          have ho := ho.2
          refine r_ast X I (k := 129) (n := 700) (by decide) rfl ho134 dX12_clause_104 (fun H locs I => ?_)
          refine lv_aload_n X.1 X.2.1 dX12_clause_105 rfl (lv_at hl 1 rfl) ?_
          have ho135 := ho.1
          have ho := ho.2
          refine r_ei I (r_runV X I pk_X12_look (c12_look l G _ _ ho135) lm_X12_134 (by decide) (cl_12 rfl) rfl rfl rfl hl.1 rfl (Nat.le_of_ble_eq_true rfl) dX12_clause_106 ⟨Nat.le_of_ble_eq_true rfl, Nat.le_of_ble_eq_true rfl⟩ ⟨Nat.le_refl 0, Nat.le_refl 0⟩) (fun H locs I => ?_)
          refine lv_bipush (v := 33) X.1 X.2.1 dX12_clause_109 (by decide) ?_
          refine lv_icmp_eq (tgt := 123) X.1 X.2.1 dX12_clause_111 (by decide) (fun c_49 => ?_) (fun c_49 => ?_)
          · skip
            have hE := ite_t hE c_49
            have ho := ite_tP ho c_49
            refine lv_iconst (v := 1) X.1 X.2.1 dX12_clause_123 (by decide) ?_
            refine lv_goto (tgt := 128) X.1 X.2.1 dX12_clause_124 (by decide) ?_
            refine lv_istore_n (lv' := [(2, .int _), (1, .int _), (0, .ref _)]) X.1 X.2.1 dX12_clause_128 rfl hl (by decide) rfl (fun ls hl => ?_)
            refine lv_iload_n X.1 X.2.1 dX12_clause_129 rfl (lv_at hl 0 rfl) ?_
            refine lv_if_eq (tgt := 140) X.1 X.2.1 dX12_clause_130 (by decide) (fun c_50 => ?_) (fun c_50 => ?_)
            · exact absurd c_50 (by decide)
            · skip
              refine lv_aload_n X.1 X.2.1 dX12_clause_133 rfl (lv_at hl 2 rfl) ?_
              have ho136 := ho.1
              have ho := ho.2
              refine r_ev I (r_runV X I pk_X12_condition (c12_conditionR l G _ _ ho136) lm_X12_174 (by decide) (cl_12 rfl) rfl rfl rfl hl.1 rfl (Nat.le_of_ble_eq_true rfl) dX12_clause_134 ⟨Nat.le_of_ble_eq_true rfl, Nat.le_of_ble_eq_true rfl⟩ ⟨Nat.le_refl 0, Nat.le_refl 0⟩) (fun H locs I => ?_)
              refine lv_goto (tgt := 184) X.1 X.2.1 dX12_clause_137 (by decide) ?_
              refine lv_aload_n X.1 X.2.1 dX12_clause_184 rfl (lv_at hl 2 rfl) ?_
              refine g12_11 X I (k := 123) (by decide) rfl lf_X12_28 dX12_clause_185 ?_
              refine lv_iload_n X.1 X.2.1 dX12_clause_188 rfl (lv_at hl 1 rfl) ?_
              refine lv_aload_n X.1 X.2.1 dX12_clause_189 rfl (lv_at hl 2 rfl) ?_
              refine g12_10 X I (k := 123) (by decide) rfl lf_X12_25 dX12_clause_190 ?_
              refine lv_iload_n X.1 X.2.1 dX12_clause_193 rfl (lv_at hl 1 rfl) ?_
              have ho137 := ho.1
              have ho := ho.2
              refine r_ald X I (k := 129) (n := 700) (by decide) rfl ho137 dX12_clause_194 ?_
              have ho138 := ho.1
              have ho := ho.2
              refine r_ast X I (k := 130) (n := 700) (by decide) rfl ho138 dX12_clause_195 (fun H locs I => ?_)
              refine lv_iload_n X.1 X.2.1 dX12_clause_196 rfl (lv_at hl 0 rfl) ?_
              refine lv_if_eq (tgt := 251) X.1 X.2.1 dX12_clause_197 (by decide) (fun c_51 => ?_) (fun c_51 => ?_)
              · exact absurd c_51 (by decide)
              · skip
                refine lv_aload_n X.1 X.2.1 dX12_clause_200 rfl (lv_at hl 2 rfl) ?_
                refine g12_4 X I (k := 123) (by decide) rfl lf_X12_122 dX12_clause_201 ?_
                refine lv_iconst (v := (-1)) X.1 X.2.1 dX12_clause_204 (by decide) ?_
                refine lv_icmp_ne (tgt := 251) X.1 X.2.1 dX12_clause_205 (by decide) (fun c_52 => ?_) (fun c_52 => ?_)
                · skip
                  have hE := ite_f hE c_52
                  have ho := ite_fP ho c_52
                  refine lv_aload_n X.1 X.2.1 dX12_clause_251 rfl (lv_at hl 2 rfl) ?_
                  refine g12_12 X I (k := 123) (by decide) rfl lf_X12_31 dX12_clause_252 ?_
                  refine lv_iload_n X.1 X.2.1 dX12_clause_255 rfl (lv_at hl 1 rfl) ?_
                  refine lv_aload_n X.1 X.2.1 dX12_clause_256 rfl (lv_at hl 2 rfl) ?_
                  refine g12_8 X I (k := 123) (by decide) rfl lf_X12_19 dX12_clause_257 ?_
                  refine lv_aload_n X.1 X.2.1 dX12_clause_260 rfl (lv_at hl 2 rfl) ?_
                  refine g12_14 X I (k := 123) (by decide) rfl lf_X12_125 dX12_clause_261 ?_
                  have ho139 := ho.1
                  have ho := ho.2
                  refine r_ald X I (k := 127) (n := 5) (by decide) rfl ho139 dX12_clause_264 ?_
                  have ho140 := ho.1
                  have ho := ho.2
                  refine r_ast X I (k := 131) (n := 700) (by decide) rfl ho140 dX12_clause_265 (fun H locs I => ?_)
                  refine lv_aload_n X.1 X.2.1 dX12_clause_266 rfl (lv_at hl 2 rfl) ?_
                  refine g12_9 X I (k := 123) (by decide) rfl lf_X12_22 dX12_clause_267 ?_
                  refine lv_aload_n X.1 X.2.1 dX12_clause_270 rfl (lv_at hl 2 rfl) ?_
                  refine g12_14 X I (k := 123) (by decide) rfl lf_X12_125 dX12_clause_271 ?_
                  refine lv_dup2_11 X.1 X.2.1 dX12_clause_274 rfl rfl ?_
                  have ho141 := ho.1
                  have ho := ho.2
                  refine r_ald X I (k := 128) (n := 5) (by decide) rfl ho141 dX12_clause_275 ?_
                  refine lv_iconst (v := 1) X.1 X.2.1 dX12_clause_276 (by decide) ?_
                  refine lv_iadd X.1 X.2.1 dX12_clause_277 ?_
                  have ho142 := ho.1
                  have ho := ho.2
                  refine r_ast X I (k := 128) (n := 5) (by decide) rfl ho142 dX12_clause_278 (fun H locs I => ?_)
                  have h9 := hE
                  exact r_vret X I (e_v h9.symm rfl) dX12_clause_279
                · skip
                  have hE := ite_t hE c_52
                  have ho := ite_tP ho c_52
                  refine lv_aload_n X.1 X.2.1 dX12_clause_208 rfl (lv_at hl 2 rfl) ?_
                  have ho143 := ho.1
                  have ho := ho.2
                  refine r_ei I (r_runV X I pk_X12_look (c12_look l G _ _ ho143) lm_X12_134 (by decide) (cl_12 rfl) rfl rfl rfl hl.1 rfl (Nat.le_of_ble_eq_true rfl) dX12_clause_209 ⟨Nat.le_of_ble_eq_true rfl, Nat.le_of_ble_eq_true rfl⟩ ⟨Nat.le_refl 0, Nat.le_refl 0⟩) (fun H locs I => ?_)
                  refine lv_bipush (v := 63) X.1 X.2.1 dX12_clause_212 (by decide) ?_
                  refine lv_icmp_eq (tgt := 222) X.1 X.2.1 dX12_clause_214 (by decide) (fun c_53 => ?_) (fun c_53 => ?_)
                  · skip
                    have hE := ite_t hE c_53
                    have ho := ite_tP ho c_53
                    refine lv_aload_n X.1 X.2.1 dX12_clause_222 rfl (lv_at hl 2 rfl) ?_
                    refine lv_dup X.1 X.2.1 dX12_clause_223 rfl ?_
                    refine g12_3 X I (k := 123) (by decide) rfl lf_X12_115 dX12_clause_224 ?_
                    refine lv_iconst (v := 1) X.1 X.2.1 dX12_clause_227 (by decide) ?_
                    refine lv_iadd X.1 X.2.1 dX12_clause_228 ?_
                    refine p12_3 X I (k := 123) (by decide) rfl lf_X12_115 dX12_clause_229 (fun H locs I => ?_)
                    refine lv_aload_n X.1 X.2.1 dX12_clause_232 rfl (lv_at hl 2 rfl) ?_
                    refine g12_11 X I (k := 123) (by decide) rfl lf_X12_28 dX12_clause_233 ?_
                    refine lv_iload_n X.1 X.2.1 dX12_clause_236 rfl (lv_at hl 1 rfl) ?_
                    refine lv_aload_n X.1 X.2.1 dX12_clause_237 rfl (lv_at hl 2 rfl) ?_
                    refine g12_8 X I (k := 123) (by decide) rfl lf_X12_19 dX12_clause_238 ?_
                    refine lv_aload_n X.1 X.2.1 dX12_clause_241 rfl (lv_at hl 2 rfl) ?_
                    refine g12_14 X I (k := 123) (by decide) rfl lf_X12_125 dX12_clause_242 ?_
                    have ho144 := ho.1
                    have ho := ho.2
                    refine r_ald X I (k := 127) (n := 5) (by decide) rfl ho144 dX12_clause_245 ?_
                    have ho145 := ho.1
                    have ho := ho.2
                    refine r_ast X I (k := 130) (n := 700) (by decide) rfl ho145 dX12_clause_246 (fun H locs I => ?_)
                    refine lv_aload_n X.1 X.2.1 dX12_clause_247 rfl (lv_at hl 2 rfl) ?_
                    have ho146 := ho.1
                    have ho := ho.2
                    refine r_ev I (r_runV X I pk_X12_sum (c12_sumR l G _ _ ho146) lm_X12_155 (by decide) (cl_12 rfl) rfl rfl rfl hl.1 rfl (Nat.le_of_ble_eq_true rfl) dX12_clause_248 ⟨Nat.le_of_ble_eq_true rfl, Nat.le_of_ble_eq_true rfl⟩ ⟨Nat.le_refl 0, Nat.le_refl 0⟩) (fun H locs I => ?_)
                    refine lv_aload_n X.1 X.2.1 dX12_clause_251 rfl (lv_at hl 2 rfl) ?_
                    refine g12_12 X I (k := 123) (by decide) rfl lf_X12_31 dX12_clause_252 ?_
                    refine lv_iload_n X.1 X.2.1 dX12_clause_255 rfl (lv_at hl 1 rfl) ?_
                    refine lv_aload_n X.1 X.2.1 dX12_clause_256 rfl (lv_at hl 2 rfl) ?_
                    refine g12_8 X I (k := 123) (by decide) rfl lf_X12_19 dX12_clause_257 ?_
                    refine lv_aload_n X.1 X.2.1 dX12_clause_260 rfl (lv_at hl 2 rfl) ?_
                    refine g12_14 X I (k := 123) (by decide) rfl lf_X12_125 dX12_clause_261 ?_
                    have ho147 := ho.1
                    have ho := ho.2
                    refine r_ald X I (k := 127) (n := 5) (by decide) rfl ho147 dX12_clause_264 ?_
                    have ho148 := ho.1
                    have ho := ho.2
                    refine r_ast X I (k := 131) (n := 700) (by decide) rfl ho148 dX12_clause_265 (fun H locs I => ?_)
                    refine lv_aload_n X.1 X.2.1 dX12_clause_266 rfl (lv_at hl 2 rfl) ?_
                    refine g12_9 X I (k := 123) (by decide) rfl lf_X12_22 dX12_clause_267 ?_
                    refine lv_aload_n X.1 X.2.1 dX12_clause_270 rfl (lv_at hl 2 rfl) ?_
                    refine g12_14 X I (k := 123) (by decide) rfl lf_X12_125 dX12_clause_271 ?_
                    refine lv_dup2_11 X.1 X.2.1 dX12_clause_274 rfl rfl ?_
                    have ho149 := ho.1
                    have ho := ho.2
                    refine r_ald X I (k := 128) (n := 5) (by decide) rfl ho149 dX12_clause_275 ?_
                    refine lv_iconst (v := 1) X.1 X.2.1 dX12_clause_276 (by decide) ?_
                    refine lv_iadd X.1 X.2.1 dX12_clause_277 ?_
                    have ho150 := ho.1
                    have ho := ho.2
                    refine r_ast X I (k := 128) (n := 5) (by decide) rfl ho150 dX12_clause_278 (fun H locs I => ?_)
                    have h9 := hE
                    exact r_vret X I (e_v h9.symm rfl) dX12_clause_279
                  · skip
                    have hE := ite_f hE c_53
                    have ho := ite_fP ho c_53
                    refine lv_aload_n X.1 X.2.1 dX12_clause_217 rfl (lv_at hl 2 rfl) ?_
                    refine r_ev I (r_runV X I pk_X12_bad (c12_bad l G _ _) lm_X12_131 (by decide) (cl_12 rfl) rfl rfl rfl hl.1 rfl (Nat.le_of_ble_eq_true rfl) dX12_clause_218 ⟨Nat.le_of_ble_eq_true rfl, Nat.le_of_ble_eq_true rfl⟩ ⟨Nat.le_refl 0, Nat.le_refl 0⟩) (fun H locs I => ?_)
                    have h9 := hE
                    exact r_vret X I (e_v h9.symm rfl) dX12_clause_221
          · skip
            have hE := ite_f hE c_49
            have ho := ite_fP ho c_49
            refine lv_aload_n X.1 X.2.1 dX12_clause_114 rfl (lv_at hl 1 rfl) ?_
            have ho151 := ho.1
            have ho := ho.2
            refine r_ei I (r_runV X I pk_X12_look (c12_look l G _ _ ho151) lm_X12_134 (by decide) (cl_12 rfl) rfl rfl rfl hl.1 rfl (Nat.le_of_ble_eq_true rfl) dX12_clause_115 ⟨Nat.le_of_ble_eq_true rfl, Nat.le_of_ble_eq_true rfl⟩ ⟨Nat.le_refl 0, Nat.le_refl 0⟩) (fun H locs I => ?_)
            refine lv_bipush (v := 40) X.1 X.2.1 dX12_clause_118 (by decide) ?_
            refine lv_icmp_ne (tgt := 127) X.1 X.2.1 dX12_clause_120 (by decide) (fun c_54 => ?_) (fun c_54 => ?_)
            · skip
              have hE := ite_f hE c_54
              have ho := ite_fP ho c_54
              refine lv_iconst (v := 0) X.1 X.2.1 dX12_clause_127 (by decide) ?_
              refine lv_istore_n (lv' := [(2, .int _), (1, .int _), (0, .ref _)]) X.1 X.2.1 dX12_clause_128 rfl hl (by decide) rfl (fun ls hl => ?_)
              refine lv_iload_n X.1 X.2.1 dX12_clause_129 rfl (lv_at hl 0 rfl) ?_
              refine lv_if_eq (tgt := 140) X.1 X.2.1 dX12_clause_130 (by decide) (fun c_55 => ?_) (fun c_55 => ?_)
              · skip
                refine lv_aload_n X.1 X.2.1 dX12_clause_140 rfl (lv_at hl 2 rfl) ?_
                have ho152 := ho.1
                have ho := ho.2
                refine r_ev I (r_runV X I pk_X12_sum (c12_sumR l G _ _ ho152) lm_X12_155 (by decide) (cl_12 rfl) rfl rfl rfl hl.1 rfl (Nat.le_of_ble_eq_true rfl) dX12_clause_141 ⟨Nat.le_of_ble_eq_true rfl, Nat.le_of_ble_eq_true rfl⟩ ⟨Nat.le_refl 0, Nat.le_refl 0⟩) (fun H locs I => ?_)
                refine lv_aload_n X.1 X.2.1 dX12_clause_144 rfl (lv_at hl 2 rfl) ?_
                refine g12_4 X I (k := 123) (by decide) rfl lf_X12_122 dX12_clause_145 ?_
                refine lv_iconst (v := (-1)) X.1 X.2.1 dX12_clause_148 (by decide) ?_
                refine lv_icmp_ne (tgt := 166) X.1 X.2.1 dX12_clause_149 (by decide) (fun c_56 => ?_) (fun c_56 => ?_)
                · skip
                  have hE := ite_f hE c_56
                  have ho := ite_fP ho c_56
                  refine lv_iconst (v := 0) X.1 X.2.1 dX12_clause_166 (by decide) ?_
                  refine lv_istore_n (lv' := [(2, .int _), (1, .int _), (0, .ref _)]) X.1 X.2.1 dX12_clause_167 rfl hl (by decide) rfl (fun ls hl => ?_)
                  refine lv_iload_n X.1 X.2.1 dX12_clause_168 rfl (lv_at hl 0 rfl) ?_
                  refine lv_if_eq (tgt := 184) X.1 X.2.1 dX12_clause_169 (by decide) (fun c_57 => ?_) (fun c_57 => ?_)
                  · skip
                    refine lv_aload_n X.1 X.2.1 dX12_clause_184 rfl (lv_at hl 2 rfl) ?_
                    refine g12_11 X I (k := 123) (by decide) rfl lf_X12_28 dX12_clause_185 ?_
                    refine lv_iload_n X.1 X.2.1 dX12_clause_188 rfl (lv_at hl 1 rfl) ?_
                    refine lv_aload_n X.1 X.2.1 dX12_clause_189 rfl (lv_at hl 2 rfl) ?_
                    refine g12_10 X I (k := 123) (by decide) rfl lf_X12_25 dX12_clause_190 ?_
                    refine lv_iload_n X.1 X.2.1 dX12_clause_193 rfl (lv_at hl 1 rfl) ?_
                    have ho153 := ho.1
                    have ho := ho.2
                    refine r_ald X I (k := 129) (n := 700) (by decide) rfl ho153 dX12_clause_194 ?_
                    have ho154 := ho.1
                    have ho := ho.2
                    refine r_ast X I (k := 130) (n := 700) (by decide) rfl ho154 dX12_clause_195 (fun H locs I => ?_)
                    refine lv_iload_n X.1 X.2.1 dX12_clause_196 rfl (lv_at hl 0 rfl) ?_
                    refine lv_if_eq (tgt := 251) X.1 X.2.1 dX12_clause_197 (by decide) (fun c_58 => ?_) (fun c_58 => ?_)
                    · skip
                      refine lv_aload_n X.1 X.2.1 dX12_clause_251 rfl (lv_at hl 2 rfl) ?_
                      refine g12_12 X I (k := 123) (by decide) rfl lf_X12_31 dX12_clause_252 ?_
                      refine lv_iload_n X.1 X.2.1 dX12_clause_255 rfl (lv_at hl 1 rfl) ?_
                      refine lv_aload_n X.1 X.2.1 dX12_clause_256 rfl (lv_at hl 2 rfl) ?_
                      refine g12_8 X I (k := 123) (by decide) rfl lf_X12_19 dX12_clause_257 ?_
                      refine lv_aload_n X.1 X.2.1 dX12_clause_260 rfl (lv_at hl 2 rfl) ?_
                      refine g12_14 X I (k := 123) (by decide) rfl lf_X12_125 dX12_clause_261 ?_
                      have ho155 := ho.1
                      have ho := ho.2
                      refine r_ald X I (k := 127) (n := 5) (by decide) rfl ho155 dX12_clause_264 ?_
                      have ho156 := ho.1
                      have ho := ho.2
                      refine r_ast X I (k := 131) (n := 700) (by decide) rfl ho156 dX12_clause_265 (fun H locs I => ?_)
                      refine lv_aload_n X.1 X.2.1 dX12_clause_266 rfl (lv_at hl 2 rfl) ?_
                      refine g12_9 X I (k := 123) (by decide) rfl lf_X12_22 dX12_clause_267 ?_
                      refine lv_aload_n X.1 X.2.1 dX12_clause_270 rfl (lv_at hl 2 rfl) ?_
                      refine g12_14 X I (k := 123) (by decide) rfl lf_X12_125 dX12_clause_271 ?_
                      refine lv_dup2_11 X.1 X.2.1 dX12_clause_274 rfl rfl ?_
                      have ho157 := ho.1
                      have ho := ho.2
                      refine r_ald X I (k := 128) (n := 5) (by decide) rfl ho157 dX12_clause_275 ?_
                      refine lv_iconst (v := 1) X.1 X.2.1 dX12_clause_276 (by decide) ?_
                      refine lv_iadd X.1 X.2.1 dX12_clause_277 ?_
                      have ho158 := ho.1
                      have ho := ho.2
                      refine r_ast X I (k := 128) (n := 5) (by decide) rfl ho158 dX12_clause_278 (fun H locs I => ?_)
                      have h9 := hE
                      exact r_vret X I (e_v h9.symm rfl) dX12_clause_279
                    · exact absurd c_58 (by decide)
                  · exact absurd c_57 (by decide)
                · skip
                  have hE := ite_t hE c_56
                  have ho := ite_tP ho c_56
                  refine lv_aload_n X.1 X.2.1 dX12_clause_152 rfl (lv_at hl 2 rfl) ?_
                  have ho159 := ho.1
                  have ho := ho.2
                  refine r_ei I (r_runV X I pk_X12_look (c12_look l G _ _ ho159) lm_X12_134 (by decide) (cl_12 rfl) rfl rfl rfl hl.1 rfl (Nat.le_of_ble_eq_true rfl) dX12_clause_153 ⟨Nat.le_of_ble_eq_true rfl, Nat.le_of_ble_eq_true rfl⟩ ⟨Nat.le_refl 0, Nat.le_refl 0⟩) (fun H locs I => ?_)
                  refine r_ei I (r_runS X I pk_X12_isSign (c12_isSign l G _ _ _) lm_X12_168 rfl hl.1 rfl (Nat.le_of_ble_eq_true rfl) dX12_clause_156 ⟨Nat.le_of_ble_eq_true rfl, Nat.le_of_ble_eq_true rfl⟩ ⟨Nat.le_refl 0, Nat.le_refl 0⟩) (fun H locs I => ?_)
                  refine lv_if_eq (tgt := 166) X.1 X.2.1 dX12_clause_159 (by decide) (fun c_59 => ?_) (fun c_59 => ?_)
                  · skip
                    have hE := ite_f hE (b2i_n c_59)
                    have ho := ite_fP ho (b2i_n c_59)
                    refine lv_iconst (v := 0) X.1 X.2.1 dX12_clause_166 (by decide) ?_
                    refine lv_istore_n (lv' := [(2, .int _), (1, .int _), (0, .ref _)]) X.1 X.2.1 dX12_clause_167 rfl hl (by decide) rfl (fun ls hl => ?_)
                    refine lv_iload_n X.1 X.2.1 dX12_clause_168 rfl (lv_at hl 0 rfl) ?_
                    refine lv_if_eq (tgt := 184) X.1 X.2.1 dX12_clause_169 (by decide) (fun c_60 => ?_) (fun c_60 => ?_)
                    · skip
                      refine lv_aload_n X.1 X.2.1 dX12_clause_184 rfl (lv_at hl 2 rfl) ?_
                      refine g12_11 X I (k := 123) (by decide) rfl lf_X12_28 dX12_clause_185 ?_
                      refine lv_iload_n X.1 X.2.1 dX12_clause_188 rfl (lv_at hl 1 rfl) ?_
                      refine lv_aload_n X.1 X.2.1 dX12_clause_189 rfl (lv_at hl 2 rfl) ?_
                      refine g12_10 X I (k := 123) (by decide) rfl lf_X12_25 dX12_clause_190 ?_
                      refine lv_iload_n X.1 X.2.1 dX12_clause_193 rfl (lv_at hl 1 rfl) ?_
                      have ho160 := ho.1
                      have ho := ho.2
                      refine r_ald X I (k := 129) (n := 700) (by decide) rfl ho160 dX12_clause_194 ?_
                      have ho161 := ho.1
                      have ho := ho.2
                      refine r_ast X I (k := 130) (n := 700) (by decide) rfl ho161 dX12_clause_195 (fun H locs I => ?_)
                      refine lv_iload_n X.1 X.2.1 dX12_clause_196 rfl (lv_at hl 0 rfl) ?_
                      refine lv_if_eq (tgt := 251) X.1 X.2.1 dX12_clause_197 (by decide) (fun c_61 => ?_) (fun c_61 => ?_)
                      · skip
                        refine lv_aload_n X.1 X.2.1 dX12_clause_251 rfl (lv_at hl 2 rfl) ?_
                        refine g12_12 X I (k := 123) (by decide) rfl lf_X12_31 dX12_clause_252 ?_
                        refine lv_iload_n X.1 X.2.1 dX12_clause_255 rfl (lv_at hl 1 rfl) ?_
                        refine lv_aload_n X.1 X.2.1 dX12_clause_256 rfl (lv_at hl 2 rfl) ?_
                        refine g12_8 X I (k := 123) (by decide) rfl lf_X12_19 dX12_clause_257 ?_
                        refine lv_aload_n X.1 X.2.1 dX12_clause_260 rfl (lv_at hl 2 rfl) ?_
                        refine g12_14 X I (k := 123) (by decide) rfl lf_X12_125 dX12_clause_261 ?_
                        have ho162 := ho.1
                        have ho := ho.2
                        refine r_ald X I (k := 127) (n := 5) (by decide) rfl ho162 dX12_clause_264 ?_
                        have ho163 := ho.1
                        have ho := ho.2
                        refine r_ast X I (k := 131) (n := 700) (by decide) rfl ho163 dX12_clause_265 (fun H locs I => ?_)
                        refine lv_aload_n X.1 X.2.1 dX12_clause_266 rfl (lv_at hl 2 rfl) ?_
                        refine g12_9 X I (k := 123) (by decide) rfl lf_X12_22 dX12_clause_267 ?_
                        refine lv_aload_n X.1 X.2.1 dX12_clause_270 rfl (lv_at hl 2 rfl) ?_
                        refine g12_14 X I (k := 123) (by decide) rfl lf_X12_125 dX12_clause_271 ?_
                        refine lv_dup2_11 X.1 X.2.1 dX12_clause_274 rfl rfl ?_
                        have ho164 := ho.1
                        have ho := ho.2
                        refine r_ald X I (k := 128) (n := 5) (by decide) rfl ho164 dX12_clause_275 ?_
                        refine lv_iconst (v := 1) X.1 X.2.1 dX12_clause_276 (by decide) ?_
                        refine lv_iadd X.1 X.2.1 dX12_clause_277 ?_
                        have ho165 := ho.1
                        have ho := ho.2
                        refine r_ast X I (k := 128) (n := 5) (by decide) rfl ho165 dX12_clause_278 (fun H locs I => ?_)
                        have h9 := hE
                        exact r_vret X I (e_v h9.symm rfl) dX12_clause_279
                      · exact absurd c_61 (by decide)
                    · exact absurd c_60 (by decide)
                  · skip
                    have hE := ite_t hE (b2i_y c_59)
                    have ho := ite_tP ho (b2i_y c_59)
                    refine lv_iconst (v := 1) X.1 X.2.1 dX12_clause_162 (by decide) ?_
                    refine lv_goto (tgt := 167) X.1 X.2.1 dX12_clause_163 (by decide) ?_
                    refine lv_istore_n (lv' := [(2, .int _), (1, .int _), (0, .ref _)]) X.1 X.2.1 dX12_clause_167 rfl hl (by decide) rfl (fun ls hl => ?_)
                    refine lv_iload_n X.1 X.2.1 dX12_clause_168 rfl (lv_at hl 0 rfl) ?_
                    refine lv_if_eq (tgt := 184) X.1 X.2.1 dX12_clause_169 (by decide) (fun c_62 => ?_) (fun c_62 => ?_)
                    · exact absurd c_62 (by decide)
                    · skip
                      refine lv_aload_n X.1 X.2.1 dX12_clause_172 rfl (lv_at hl 2 rfl) ?_
                      have ho166 := ho.1
                      have ho := ho.2
                      refine r_ev I (r_runV X I pk_X12_compare (c12_compare l G _ _ ho166) lm_X12_177 (by decide) (cl_12 rfl) rfl rfl rfl hl.1 rfl (Nat.le_of_ble_eq_true rfl) dX12_clause_173 ⟨Nat.le_of_ble_eq_true rfl, Nat.le_of_ble_eq_true rfl⟩ ⟨Nat.le_refl 0, Nat.le_refl 0⟩) (fun H locs I => ?_)
                      refine lv_aload_n X.1 X.2.1 dX12_clause_176 rfl (lv_at hl 2 rfl) ?_
                      have ho167 := ho.1
                      have ho := ho.2
                      refine r_ev I (r_runV X I pk_X12_goOnAnd (c12_goOnAndR l G _ _ ho167) lm_X12_180 (by decide) (cl_12 rfl) rfl rfl rfl hl.1 rfl (Nat.le_of_ble_eq_true rfl) dX12_clause_177 ⟨Nat.le_of_ble_eq_true rfl, Nat.le_of_ble_eq_true rfl⟩ ⟨Nat.le_refl 0, Nat.le_refl 0⟩) (fun H locs I => ?_)
                      refine lv_aload_n X.1 X.2.1 dX12_clause_180 rfl (lv_at hl 2 rfl) ?_
                      have ho168 := ho.1
                      have ho := ho.2
                      refine r_ev I (r_runV X I pk_X12_goOnOr (c12_goOnOrR l G _ _ ho168) lm_X12_183 (by decide) (cl_12 rfl) rfl rfl rfl hl.1 rfl (Nat.le_of_ble_eq_true rfl) dX12_clause_181 ⟨Nat.le_of_ble_eq_true rfl, Nat.le_of_ble_eq_true rfl⟩ ⟨Nat.le_refl 0, Nat.le_refl 0⟩) (fun H locs I => ?_)
                      refine lv_aload_n X.1 X.2.1 dX12_clause_184 rfl (lv_at hl 2 rfl) ?_
                      refine g12_11 X I (k := 123) (by decide) rfl lf_X12_28 dX12_clause_185 ?_
                      refine lv_iload_n X.1 X.2.1 dX12_clause_188 rfl (lv_at hl 1 rfl) ?_
                      refine lv_aload_n X.1 X.2.1 dX12_clause_189 rfl (lv_at hl 2 rfl) ?_
                      refine g12_10 X I (k := 123) (by decide) rfl lf_X12_25 dX12_clause_190 ?_
                      refine lv_iload_n X.1 X.2.1 dX12_clause_193 rfl (lv_at hl 1 rfl) ?_
                      have ho169 := ho.1
                      have ho := ho.2
                      refine r_ald X I (k := 129) (n := 700) (by decide) rfl ho169 dX12_clause_194 ?_
                      have ho170 := ho.1
                      have ho := ho.2
                      refine r_ast X I (k := 130) (n := 700) (by decide) rfl ho170 dX12_clause_195 (fun H locs I => ?_)
                      refine lv_iload_n X.1 X.2.1 dX12_clause_196 rfl (lv_at hl 0 rfl) ?_
                      refine lv_if_eq (tgt := 251) X.1 X.2.1 dX12_clause_197 (by decide) (fun c_63 => ?_) (fun c_63 => ?_)
                      · exact absurd c_63 (by decide)
                      · skip
                        refine lv_aload_n X.1 X.2.1 dX12_clause_200 rfl (lv_at hl 2 rfl) ?_
                        refine g12_4 X I (k := 123) (by decide) rfl lf_X12_122 dX12_clause_201 ?_
                        refine lv_iconst (v := (-1)) X.1 X.2.1 dX12_clause_204 (by decide) ?_
                        refine lv_icmp_ne (tgt := 251) X.1 X.2.1 dX12_clause_205 (by decide) (fun c_64 => ?_) (fun c_64 => ?_)
                        · skip
                          have hE := ite_f hE c_64
                          have ho := ite_fP ho c_64
                          refine lv_aload_n X.1 X.2.1 dX12_clause_251 rfl (lv_at hl 2 rfl) ?_
                          refine g12_12 X I (k := 123) (by decide) rfl lf_X12_31 dX12_clause_252 ?_
                          refine lv_iload_n X.1 X.2.1 dX12_clause_255 rfl (lv_at hl 1 rfl) ?_
                          refine lv_aload_n X.1 X.2.1 dX12_clause_256 rfl (lv_at hl 2 rfl) ?_
                          refine g12_8 X I (k := 123) (by decide) rfl lf_X12_19 dX12_clause_257 ?_
                          refine lv_aload_n X.1 X.2.1 dX12_clause_260 rfl (lv_at hl 2 rfl) ?_
                          refine g12_14 X I (k := 123) (by decide) rfl lf_X12_125 dX12_clause_261 ?_
                          have ho171 := ho.1
                          have ho := ho.2
                          refine r_ald X I (k := 127) (n := 5) (by decide) rfl ho171 dX12_clause_264 ?_
                          have ho172 := ho.1
                          have ho := ho.2
                          refine r_ast X I (k := 131) (n := 700) (by decide) rfl ho172 dX12_clause_265 (fun H locs I => ?_)
                          refine lv_aload_n X.1 X.2.1 dX12_clause_266 rfl (lv_at hl 2 rfl) ?_
                          refine g12_9 X I (k := 123) (by decide) rfl lf_X12_22 dX12_clause_267 ?_
                          refine lv_aload_n X.1 X.2.1 dX12_clause_270 rfl (lv_at hl 2 rfl) ?_
                          refine g12_14 X I (k := 123) (by decide) rfl lf_X12_125 dX12_clause_271 ?_
                          refine lv_dup2_11 X.1 X.2.1 dX12_clause_274 rfl rfl ?_
                          have ho173 := ho.1
                          have ho := ho.2
                          refine r_ald X I (k := 128) (n := 5) (by decide) rfl ho173 dX12_clause_275 ?_
                          refine lv_iconst (v := 1) X.1 X.2.1 dX12_clause_276 (by decide) ?_
                          refine lv_iadd X.1 X.2.1 dX12_clause_277 ?_
                          have ho174 := ho.1
                          have ho := ho.2
                          refine r_ast X I (k := 128) (n := 5) (by decide) rfl ho174 dX12_clause_278 (fun H locs I => ?_)
                          have h9 := hE
                          exact r_vret X I (e_v h9.symm rfl) dX12_clause_279
                        · skip
                          have hE := ite_t hE c_64
                          have ho := ite_tP ho c_64
                          refine lv_aload_n X.1 X.2.1 dX12_clause_208 rfl (lv_at hl 2 rfl) ?_
                          have ho175 := ho.1
                          have ho := ho.2
                          refine r_ei I (r_runV X I pk_X12_look (c12_look l G _ _ ho175) lm_X12_134 (by decide) (cl_12 rfl) rfl rfl rfl hl.1 rfl (Nat.le_of_ble_eq_true rfl) dX12_clause_209 ⟨Nat.le_of_ble_eq_true rfl, Nat.le_of_ble_eq_true rfl⟩ ⟨Nat.le_refl 0, Nat.le_refl 0⟩) (fun H locs I => ?_)
                          refine lv_bipush (v := 63) X.1 X.2.1 dX12_clause_212 (by decide) ?_
                          refine lv_icmp_eq (tgt := 222) X.1 X.2.1 dX12_clause_214 (by decide) (fun c_65 => ?_) (fun c_65 => ?_)
                          · skip
                            have hE := ite_t hE c_65
                            have ho := ite_tP ho c_65
                            refine lv_aload_n X.1 X.2.1 dX12_clause_222 rfl (lv_at hl 2 rfl) ?_
                            refine lv_dup X.1 X.2.1 dX12_clause_223 rfl ?_
                            refine g12_3 X I (k := 123) (by decide) rfl lf_X12_115 dX12_clause_224 ?_
                            refine lv_iconst (v := 1) X.1 X.2.1 dX12_clause_227 (by decide) ?_
                            refine lv_iadd X.1 X.2.1 dX12_clause_228 ?_
                            refine p12_3 X I (k := 123) (by decide) rfl lf_X12_115 dX12_clause_229 (fun H locs I => ?_)
                            refine lv_aload_n X.1 X.2.1 dX12_clause_232 rfl (lv_at hl 2 rfl) ?_
                            refine g12_11 X I (k := 123) (by decide) rfl lf_X12_28 dX12_clause_233 ?_
                            refine lv_iload_n X.1 X.2.1 dX12_clause_236 rfl (lv_at hl 1 rfl) ?_
                            refine lv_aload_n X.1 X.2.1 dX12_clause_237 rfl (lv_at hl 2 rfl) ?_
                            refine g12_8 X I (k := 123) (by decide) rfl lf_X12_19 dX12_clause_238 ?_
                            refine lv_aload_n X.1 X.2.1 dX12_clause_241 rfl (lv_at hl 2 rfl) ?_
                            refine g12_14 X I (k := 123) (by decide) rfl lf_X12_125 dX12_clause_242 ?_
                            have ho176 := ho.1
                            have ho := ho.2
                            refine r_ald X I (k := 127) (n := 5) (by decide) rfl ho176 dX12_clause_245 ?_
                            have ho177 := ho.1
                            have ho := ho.2
                            refine r_ast X I (k := 130) (n := 700) (by decide) rfl ho177 dX12_clause_246 (fun H locs I => ?_)
                            refine lv_aload_n X.1 X.2.1 dX12_clause_247 rfl (lv_at hl 2 rfl) ?_
                            have ho178 := ho.1
                            have ho := ho.2
                            refine r_ev I (r_runV X I pk_X12_sum (c12_sumR l G _ _ ho178) lm_X12_155 (by decide) (cl_12 rfl) rfl rfl rfl hl.1 rfl (Nat.le_of_ble_eq_true rfl) dX12_clause_248 ⟨Nat.le_of_ble_eq_true rfl, Nat.le_of_ble_eq_true rfl⟩ ⟨Nat.le_refl 0, Nat.le_refl 0⟩) (fun H locs I => ?_)
                            refine lv_aload_n X.1 X.2.1 dX12_clause_251 rfl (lv_at hl 2 rfl) ?_
                            refine g12_12 X I (k := 123) (by decide) rfl lf_X12_31 dX12_clause_252 ?_
                            refine lv_iload_n X.1 X.2.1 dX12_clause_255 rfl (lv_at hl 1 rfl) ?_
                            refine lv_aload_n X.1 X.2.1 dX12_clause_256 rfl (lv_at hl 2 rfl) ?_
                            refine g12_8 X I (k := 123) (by decide) rfl lf_X12_19 dX12_clause_257 ?_
                            refine lv_aload_n X.1 X.2.1 dX12_clause_260 rfl (lv_at hl 2 rfl) ?_
                            refine g12_14 X I (k := 123) (by decide) rfl lf_X12_125 dX12_clause_261 ?_
                            have ho179 := ho.1
                            have ho := ho.2
                            refine r_ald X I (k := 127) (n := 5) (by decide) rfl ho179 dX12_clause_264 ?_
                            have ho180 := ho.1
                            have ho := ho.2
                            refine r_ast X I (k := 131) (n := 700) (by decide) rfl ho180 dX12_clause_265 (fun H locs I => ?_)
                            refine lv_aload_n X.1 X.2.1 dX12_clause_266 rfl (lv_at hl 2 rfl) ?_
                            refine g12_9 X I (k := 123) (by decide) rfl lf_X12_22 dX12_clause_267 ?_
                            refine lv_aload_n X.1 X.2.1 dX12_clause_270 rfl (lv_at hl 2 rfl) ?_
                            refine g12_14 X I (k := 123) (by decide) rfl lf_X12_125 dX12_clause_271 ?_
                            refine lv_dup2_11 X.1 X.2.1 dX12_clause_274 rfl rfl ?_
                            have ho181 := ho.1
                            have ho := ho.2
                            refine r_ald X I (k := 128) (n := 5) (by decide) rfl ho181 dX12_clause_275 ?_
                            refine lv_iconst (v := 1) X.1 X.2.1 dX12_clause_276 (by decide) ?_
                            refine lv_iadd X.1 X.2.1 dX12_clause_277 ?_
                            have ho182 := ho.1
                            have ho := ho.2
                            refine r_ast X I (k := 128) (n := 5) (by decide) rfl ho182 dX12_clause_278 (fun H locs I => ?_)
                            have h9 := hE
                            exact r_vret X I (e_v h9.symm rfl) dX12_clause_279
                          · skip
                            have hE := ite_f hE c_65
                            have ho := ite_fP ho c_65
                            refine lv_aload_n X.1 X.2.1 dX12_clause_217 rfl (lv_at hl 2 rfl) ?_
                            refine r_ev I (r_runV X I pk_X12_bad (c12_bad l G _ _) lm_X12_131 (by decide) (cl_12 rfl) rfl rfl rfl hl.1 rfl (Nat.le_of_ble_eq_true rfl) dX12_clause_218 ⟨Nat.le_of_ble_eq_true rfl, Nat.le_of_ble_eq_true rfl⟩ ⟨Nat.le_refl 0, Nat.le_refl 0⟩) (fun H locs I => ?_)
                            have h9 := hE
                            exact r_vret X I (e_v h9.symm rfl) dX12_clause_221
              · exact absurd c_55 (by decide)
            · skip
              have hE := ite_t hE c_54
              have ho := ite_tP ho c_54
              refine lv_iconst (v := 1) X.1 X.2.1 dX12_clause_123 (by decide) ?_
              refine lv_goto (tgt := 128) X.1 X.2.1 dX12_clause_124 (by decide) ?_
              refine lv_istore_n (lv' := [(2, .int _), (1, .int _), (0, .ref _)]) X.1 X.2.1 dX12_clause_128 rfl hl (by decide) rfl (fun ls hl => ?_)
              refine lv_iload_n X.1 X.2.1 dX12_clause_129 rfl (lv_at hl 0 rfl) ?_
              refine lv_if_eq (tgt := 140) X.1 X.2.1 dX12_clause_130 (by decide) (fun c_66 => ?_) (fun c_66 => ?_)
              · exact absurd c_66 (by decide)
              · skip
                refine lv_aload_n X.1 X.2.1 dX12_clause_133 rfl (lv_at hl 2 rfl) ?_
                have ho183 := ho.1
                have ho := ho.2
                refine r_ev I (r_runV X I pk_X12_condition (c12_conditionR l G _ _ ho183) lm_X12_174 (by decide) (cl_12 rfl) rfl rfl rfl hl.1 rfl (Nat.le_of_ble_eq_true rfl) dX12_clause_134 ⟨Nat.le_of_ble_eq_true rfl, Nat.le_of_ble_eq_true rfl⟩ ⟨Nat.le_refl 0, Nat.le_refl 0⟩) (fun H locs I => ?_)
                refine lv_goto (tgt := 184) X.1 X.2.1 dX12_clause_137 (by decide) ?_
                refine lv_aload_n X.1 X.2.1 dX12_clause_184 rfl (lv_at hl 2 rfl) ?_
                refine g12_11 X I (k := 123) (by decide) rfl lf_X12_28 dX12_clause_185 ?_
                refine lv_iload_n X.1 X.2.1 dX12_clause_188 rfl (lv_at hl 1 rfl) ?_
                refine lv_aload_n X.1 X.2.1 dX12_clause_189 rfl (lv_at hl 2 rfl) ?_
                refine g12_10 X I (k := 123) (by decide) rfl lf_X12_25 dX12_clause_190 ?_
                refine lv_iload_n X.1 X.2.1 dX12_clause_193 rfl (lv_at hl 1 rfl) ?_
                have ho184 := ho.1
                have ho := ho.2
                refine r_ald X I (k := 129) (n := 700) (by decide) rfl ho184 dX12_clause_194 ?_
                have ho185 := ho.1
                have ho := ho.2
                refine r_ast X I (k := 130) (n := 700) (by decide) rfl ho185 dX12_clause_195 (fun H locs I => ?_)
                refine lv_iload_n X.1 X.2.1 dX12_clause_196 rfl (lv_at hl 0 rfl) ?_
                refine lv_if_eq (tgt := 251) X.1 X.2.1 dX12_clause_197 (by decide) (fun c_67 => ?_) (fun c_67 => ?_)
                · exact absurd c_67 (by decide)
                · skip
                  refine lv_aload_n X.1 X.2.1 dX12_clause_200 rfl (lv_at hl 2 rfl) ?_
                  refine g12_4 X I (k := 123) (by decide) rfl lf_X12_122 dX12_clause_201 ?_
                  refine lv_iconst (v := (-1)) X.1 X.2.1 dX12_clause_204 (by decide) ?_
                  refine lv_icmp_ne (tgt := 251) X.1 X.2.1 dX12_clause_205 (by decide) (fun c_68 => ?_) (fun c_68 => ?_)
                  · skip
                    have hE := ite_f hE c_68
                    have ho := ite_fP ho c_68
                    refine lv_aload_n X.1 X.2.1 dX12_clause_251 rfl (lv_at hl 2 rfl) ?_
                    refine g12_12 X I (k := 123) (by decide) rfl lf_X12_31 dX12_clause_252 ?_
                    refine lv_iload_n X.1 X.2.1 dX12_clause_255 rfl (lv_at hl 1 rfl) ?_
                    refine lv_aload_n X.1 X.2.1 dX12_clause_256 rfl (lv_at hl 2 rfl) ?_
                    refine g12_8 X I (k := 123) (by decide) rfl lf_X12_19 dX12_clause_257 ?_
                    refine lv_aload_n X.1 X.2.1 dX12_clause_260 rfl (lv_at hl 2 rfl) ?_
                    refine g12_14 X I (k := 123) (by decide) rfl lf_X12_125 dX12_clause_261 ?_
                    have ho186 := ho.1
                    have ho := ho.2
                    refine r_ald X I (k := 127) (n := 5) (by decide) rfl ho186 dX12_clause_264 ?_
                    have ho187 := ho.1
                    have ho := ho.2
                    refine r_ast X I (k := 131) (n := 700) (by decide) rfl ho187 dX12_clause_265 (fun H locs I => ?_)
                    refine lv_aload_n X.1 X.2.1 dX12_clause_266 rfl (lv_at hl 2 rfl) ?_
                    refine g12_9 X I (k := 123) (by decide) rfl lf_X12_22 dX12_clause_267 ?_
                    refine lv_aload_n X.1 X.2.1 dX12_clause_270 rfl (lv_at hl 2 rfl) ?_
                    refine g12_14 X I (k := 123) (by decide) rfl lf_X12_125 dX12_clause_271 ?_
                    refine lv_dup2_11 X.1 X.2.1 dX12_clause_274 rfl rfl ?_
                    have ho188 := ho.1
                    have ho := ho.2
                    refine r_ald X I (k := 128) (n := 5) (by decide) rfl ho188 dX12_clause_275 ?_
                    refine lv_iconst (v := 1) X.1 X.2.1 dX12_clause_276 (by decide) ?_
                    refine lv_iadd X.1 X.2.1 dX12_clause_277 ?_
                    have ho189 := ho.1
                    have ho := ho.2
                    refine r_ast X I (k := 128) (n := 5) (by decide) rfl ho189 dX12_clause_278 (fun H locs I => ?_)
                    have h9 := hE
                    exact r_vret X I (e_v h9.symm rfl) dX12_clause_279
                  · skip
                    have hE := ite_t hE c_68
                    have ho := ite_tP ho c_68
                    refine lv_aload_n X.1 X.2.1 dX12_clause_208 rfl (lv_at hl 2 rfl) ?_
                    have ho190 := ho.1
                    have ho := ho.2
                    refine r_ei I (r_runV X I pk_X12_look (c12_look l G _ _ ho190) lm_X12_134 (by decide) (cl_12 rfl) rfl rfl rfl hl.1 rfl (Nat.le_of_ble_eq_true rfl) dX12_clause_209 ⟨Nat.le_of_ble_eq_true rfl, Nat.le_of_ble_eq_true rfl⟩ ⟨Nat.le_refl 0, Nat.le_refl 0⟩) (fun H locs I => ?_)
                    refine lv_bipush (v := 63) X.1 X.2.1 dX12_clause_212 (by decide) ?_
                    refine lv_icmp_eq (tgt := 222) X.1 X.2.1 dX12_clause_214 (by decide) (fun c_69 => ?_) (fun c_69 => ?_)
                    · skip
                      have hE := ite_t hE c_69
                      have ho := ite_tP ho c_69
                      refine lv_aload_n X.1 X.2.1 dX12_clause_222 rfl (lv_at hl 2 rfl) ?_
                      refine lv_dup X.1 X.2.1 dX12_clause_223 rfl ?_
                      refine g12_3 X I (k := 123) (by decide) rfl lf_X12_115 dX12_clause_224 ?_
                      refine lv_iconst (v := 1) X.1 X.2.1 dX12_clause_227 (by decide) ?_
                      refine lv_iadd X.1 X.2.1 dX12_clause_228 ?_
                      refine p12_3 X I (k := 123) (by decide) rfl lf_X12_115 dX12_clause_229 (fun H locs I => ?_)
                      refine lv_aload_n X.1 X.2.1 dX12_clause_232 rfl (lv_at hl 2 rfl) ?_
                      refine g12_11 X I (k := 123) (by decide) rfl lf_X12_28 dX12_clause_233 ?_
                      refine lv_iload_n X.1 X.2.1 dX12_clause_236 rfl (lv_at hl 1 rfl) ?_
                      refine lv_aload_n X.1 X.2.1 dX12_clause_237 rfl (lv_at hl 2 rfl) ?_
                      refine g12_8 X I (k := 123) (by decide) rfl lf_X12_19 dX12_clause_238 ?_
                      refine lv_aload_n X.1 X.2.1 dX12_clause_241 rfl (lv_at hl 2 rfl) ?_
                      refine g12_14 X I (k := 123) (by decide) rfl lf_X12_125 dX12_clause_242 ?_
                      have ho191 := ho.1
                      have ho := ho.2
                      refine r_ald X I (k := 127) (n := 5) (by decide) rfl ho191 dX12_clause_245 ?_
                      have ho192 := ho.1
                      have ho := ho.2
                      refine r_ast X I (k := 130) (n := 700) (by decide) rfl ho192 dX12_clause_246 (fun H locs I => ?_)
                      refine lv_aload_n X.1 X.2.1 dX12_clause_247 rfl (lv_at hl 2 rfl) ?_
                      have ho193 := ho.1
                      have ho := ho.2
                      refine r_ev I (r_runV X I pk_X12_sum (c12_sumR l G _ _ ho193) lm_X12_155 (by decide) (cl_12 rfl) rfl rfl rfl hl.1 rfl (Nat.le_of_ble_eq_true rfl) dX12_clause_248 ⟨Nat.le_of_ble_eq_true rfl, Nat.le_of_ble_eq_true rfl⟩ ⟨Nat.le_refl 0, Nat.le_refl 0⟩) (fun H locs I => ?_)
                      refine lv_aload_n X.1 X.2.1 dX12_clause_251 rfl (lv_at hl 2 rfl) ?_
                      refine g12_12 X I (k := 123) (by decide) rfl lf_X12_31 dX12_clause_252 ?_
                      refine lv_iload_n X.1 X.2.1 dX12_clause_255 rfl (lv_at hl 1 rfl) ?_
                      refine lv_aload_n X.1 X.2.1 dX12_clause_256 rfl (lv_at hl 2 rfl) ?_
                      refine g12_8 X I (k := 123) (by decide) rfl lf_X12_19 dX12_clause_257 ?_
                      refine lv_aload_n X.1 X.2.1 dX12_clause_260 rfl (lv_at hl 2 rfl) ?_
                      refine g12_14 X I (k := 123) (by decide) rfl lf_X12_125 dX12_clause_261 ?_
                      have ho194 := ho.1
                      have ho := ho.2
                      refine r_ald X I (k := 127) (n := 5) (by decide) rfl ho194 dX12_clause_264 ?_
                      have ho195 := ho.1
                      have ho := ho.2
                      refine r_ast X I (k := 131) (n := 700) (by decide) rfl ho195 dX12_clause_265 (fun H locs I => ?_)
                      refine lv_aload_n X.1 X.2.1 dX12_clause_266 rfl (lv_at hl 2 rfl) ?_
                      refine g12_9 X I (k := 123) (by decide) rfl lf_X12_22 dX12_clause_267 ?_
                      refine lv_aload_n X.1 X.2.1 dX12_clause_270 rfl (lv_at hl 2 rfl) ?_
                      refine g12_14 X I (k := 123) (by decide) rfl lf_X12_125 dX12_clause_271 ?_
                      refine lv_dup2_11 X.1 X.2.1 dX12_clause_274 rfl rfl ?_
                      have ho196 := ho.1
                      have ho := ho.2
                      refine r_ald X I (k := 128) (n := 5) (by decide) rfl ho196 dX12_clause_275 ?_
                      refine lv_iconst (v := 1) X.1 X.2.1 dX12_clause_276 (by decide) ?_
                      refine lv_iadd X.1 X.2.1 dX12_clause_277 ?_
                      have ho197 := ho.1
                      have ho := ho.2
                      refine r_ast X I (k := 128) (n := 5) (by decide) rfl ho197 dX12_clause_278 (fun H locs I => ?_)
                      have h9 := hE
                      exact r_vret X I (e_v h9.symm rfl) dX12_clause_279
                    · skip
                      have hE := ite_f hE c_69
                      have ho := ite_fP ho c_69
                      refine lv_aload_n X.1 X.2.1 dX12_clause_217 rfl (lv_at hl 2 rfl) ?_
                      refine r_ev I (r_runV X I pk_X12_bad (c12_bad l G _ _) lm_X12_131 (by decide) (cl_12 rfl) rfl rfl rfl hl.1 rfl (Nat.le_of_ble_eq_true rfl) dX12_clause_218 ⟨Nat.le_of_ble_eq_true rfl, Nat.le_of_ble_eq_true rfl⟩ ⟨Nat.le_refl 0, Nat.le_refl 0⟩) (fun H locs I => ?_)
                      have h9 := hE
                      exact r_vret X I (e_v h9.symm rfl) dX12_clause_221
        · skip
          have hE := ite_f hE c_48
          have ho := ite_fP ho c_48
          have h9 := hE
          exact r_vret X I (e_v h9.symm rfl) dX12_clause_89
  · skip
    have hE := ite_t hE c_1
    have ho := ite_tP ho c_1
    refine lv_aload_n X.1 X.2.1 dX12_clause_27 rfl (lv_at hl 1 rfl) ?_
    have ho198 := ho.1
    have ho := ho.2
    refine r_ei I (r_runV X I pk_X12_look (c12_look l G _ _ ho198) lm_X12_134 (by decide) (cl_12 rfl) rfl rfl rfl hl.1 rfl (Nat.le_of_ble_eq_true rfl) dX12_clause_28 ⟨Nat.le_of_ble_eq_true rfl, Nat.le_of_ble_eq_true rfl⟩ ⟨Nat.le_refl 0, Nat.le_refl 0⟩) (fun H locs I => ?_)
    refine lv_bipush (v := 121) X.1 X.2.1 dX12_clause_31 (by decide) ?_
    refine lv_icmp_eq (tgt := 40) X.1 X.2.1 dX12_clause_33 (by decide) (fun c_70 => ?_) (fun c_70 => ?_)
    · skip
      have hE := ite_t hE c_70
      have ho := ite_tP ho c_70
      refine lv_aload_n X.1 X.2.1 dX12_clause_40 rfl (lv_at hl 1 rfl) ?_
      refine lv_dup X.1 X.2.1 dX12_clause_41 rfl ?_
      refine g12_3 X I (k := 123) (by decide) rfl lf_X12_115 dX12_clause_42 ?_
      refine lv_iconst (v := 1) X.1 X.2.1 dX12_clause_45 (by decide) ?_
      refine lv_iadd X.1 X.2.1 dX12_clause_46 ?_
      refine p12_3 X I (k := 123) (by decide) rfl lf_X12_115 dX12_clause_47 (fun H locs I => ?_)
      refine lv_aload_n X.1 X.2.1 dX12_clause_50 rfl (lv_at hl 1 rfl) ?_
      refine g12_4 X I (k := 123) (by decide) rfl lf_X12_122 dX12_clause_51 ?_
      refine lv_iconst (v := (-1)) X.1 X.2.1 dX12_clause_54 (by decide) ?_
      refine lv_icmp_ne (tgt := 71) X.1 X.2.1 dX12_clause_55 (by decide) (fun c_71 => ?_) (fun c_71 => ?_)
      · skip
        have hE := ite_f hE c_71
        have ho := ite_fP ho c_71
        refine lv_aload_n X.1 X.2.1 dX12_clause_71 rfl (lv_at hl 1 rfl) ?_
        refine lv_dup X.1 X.2.1 dX12_clause_72 rfl ?_
        refine g12_3 X I (k := 123) (by decide) rfl lf_X12_115 dX12_clause_73 ?_
        refine lv_iconst (v := 1) X.1 X.2.1 dX12_clause_76 (by decide) ?_
        refine lv_iadd X.1 X.2.1 dX12_clause_77 ?_
        refine p12_3 X I (k := 123) (by decide) rfl lf_X12_115 dX12_clause_78 (fun H locs I => ?_)
        refine lv_aload_n X.1 X.2.1 dX12_clause_81 rfl (lv_at hl 1 rfl) ?_
        refine g12_4 X I (k := 123) (by decide) rfl lf_X12_122 dX12_clause_82 ?_
        refine lv_iconst (v := (-1)) X.1 X.2.1 dX12_clause_85 (by decide) ?_
        refine lv_icmp_eq (tgt := 90) X.1 X.2.1 dX12_clause_86 (by decide) (fun c_72 => ?_) (fun c_72 => ?_)
        · skip
          have hE := ite_t hE c_72
          have ho := ite_tP ho c_72
          refine lv_aload_n X.1 X.2.1 dX12_clause_90 rfl (lv_at hl 1 rfl) ?_
          refine g12_10 X I (k := 123) (by decide) rfl lf_X12_25 dX12_clause_91 ?_
          refine lv_iload_n X.1 X.2.1 dX12_clause_94 rfl (lv_at hl 0 rfl) ?_
          refine lv_aload_n X.1 X.2.1 dX12_clause_95 rfl (lv_at hl 1 rfl) ?_
          refine g12_8 X I (k := 123) (by decide) rfl lf_X12_19 dX12_clause_96 ?_
          refine lv_aload_n X.1 X.2.1 dX12_clause_99 rfl (lv_at hl 1 rfl) ?_
          refine g12_14 X I (k := 123) (by decide) rfl lf_X12_125 dX12_clause_100 ?_
          have ho199 := ho.1
          have ho := ho.2
          refine r_ald X I (k := 127) (n := 5) (by decide) rfl ho199 dX12_clause_103 ?_
          have ho200 := ho.1
          have ho := ho.2
          refine r_ast X I (k := 129) (n := 700) (by decide) rfl ho200 dX12_clause_104 (fun H locs I => ?_)
          refine lv_aload_n X.1 X.2.1 dX12_clause_105 rfl (lv_at hl 1 rfl) ?_
          have ho201 := ho.1
          have ho := ho.2
          refine r_ei I (r_runV X I pk_X12_look (c12_look l G _ _ ho201) lm_X12_134 (by decide) (cl_12 rfl) rfl rfl rfl hl.1 rfl (Nat.le_of_ble_eq_true rfl) dX12_clause_106 ⟨Nat.le_of_ble_eq_true rfl, Nat.le_of_ble_eq_true rfl⟩ ⟨Nat.le_refl 0, Nat.le_refl 0⟩) (fun H locs I => ?_)
          refine lv_bipush (v := 33) X.1 X.2.1 dX12_clause_109 (by decide) ?_
          refine lv_icmp_eq (tgt := 123) X.1 X.2.1 dX12_clause_111 (by decide) (fun c_73 => ?_) (fun c_73 => ?_)
          · skip
            have hE := ite_t hE c_73
            have ho := ite_tP ho c_73
            refine lv_iconst (v := 1) X.1 X.2.1 dX12_clause_123 (by decide) ?_
            refine lv_goto (tgt := 128) X.1 X.2.1 dX12_clause_124 (by decide) ?_
            refine lv_istore_n (lv' := [(2, .int _), (1, .int _), (0, .ref _)]) X.1 X.2.1 dX12_clause_128 rfl hl (by decide) rfl (fun ls hl => ?_)
            refine lv_iload_n X.1 X.2.1 dX12_clause_129 rfl (lv_at hl 0 rfl) ?_
            refine lv_if_eq (tgt := 140) X.1 X.2.1 dX12_clause_130 (by decide) (fun c_74 => ?_) (fun c_74 => ?_)
            · exact absurd c_74 (by decide)
            · skip
              refine lv_aload_n X.1 X.2.1 dX12_clause_133 rfl (lv_at hl 2 rfl) ?_
              have ho202 := ho.1
              have ho := ho.2
              refine r_ev I (r_runV X I pk_X12_condition (c12_conditionR l G _ _ ho202) lm_X12_174 (by decide) (cl_12 rfl) rfl rfl rfl hl.1 rfl (Nat.le_of_ble_eq_true rfl) dX12_clause_134 ⟨Nat.le_of_ble_eq_true rfl, Nat.le_of_ble_eq_true rfl⟩ ⟨Nat.le_refl 0, Nat.le_refl 0⟩) (fun H locs I => ?_)
              refine lv_goto (tgt := 184) X.1 X.2.1 dX12_clause_137 (by decide) ?_
              refine lv_aload_n X.1 X.2.1 dX12_clause_184 rfl (lv_at hl 2 rfl) ?_
              refine g12_11 X I (k := 123) (by decide) rfl lf_X12_28 dX12_clause_185 ?_
              refine lv_iload_n X.1 X.2.1 dX12_clause_188 rfl (lv_at hl 1 rfl) ?_
              refine lv_aload_n X.1 X.2.1 dX12_clause_189 rfl (lv_at hl 2 rfl) ?_
              refine g12_10 X I (k := 123) (by decide) rfl lf_X12_25 dX12_clause_190 ?_
              refine lv_iload_n X.1 X.2.1 dX12_clause_193 rfl (lv_at hl 1 rfl) ?_
              have ho203 := ho.1
              have ho := ho.2
              refine r_ald X I (k := 129) (n := 700) (by decide) rfl ho203 dX12_clause_194 ?_
              have ho204 := ho.1
              have ho := ho.2
              refine r_ast X I (k := 130) (n := 700) (by decide) rfl ho204 dX12_clause_195 (fun H locs I => ?_)
              refine lv_iload_n X.1 X.2.1 dX12_clause_196 rfl (lv_at hl 0 rfl) ?_
              refine lv_if_eq (tgt := 251) X.1 X.2.1 dX12_clause_197 (by decide) (fun c_75 => ?_) (fun c_75 => ?_)
              · exact absurd c_75 (by decide)
              · skip
                refine lv_aload_n X.1 X.2.1 dX12_clause_200 rfl (lv_at hl 2 rfl) ?_
                refine g12_4 X I (k := 123) (by decide) rfl lf_X12_122 dX12_clause_201 ?_
                refine lv_iconst (v := (-1)) X.1 X.2.1 dX12_clause_204 (by decide) ?_
                refine lv_icmp_ne (tgt := 251) X.1 X.2.1 dX12_clause_205 (by decide) (fun c_76 => ?_) (fun c_76 => ?_)
                · skip
                  have hE := ite_f hE c_76
                  have ho := ite_fP ho c_76
                  refine lv_aload_n X.1 X.2.1 dX12_clause_251 rfl (lv_at hl 2 rfl) ?_
                  refine g12_12 X I (k := 123) (by decide) rfl lf_X12_31 dX12_clause_252 ?_
                  refine lv_iload_n X.1 X.2.1 dX12_clause_255 rfl (lv_at hl 1 rfl) ?_
                  refine lv_aload_n X.1 X.2.1 dX12_clause_256 rfl (lv_at hl 2 rfl) ?_
                  refine g12_8 X I (k := 123) (by decide) rfl lf_X12_19 dX12_clause_257 ?_
                  refine lv_aload_n X.1 X.2.1 dX12_clause_260 rfl (lv_at hl 2 rfl) ?_
                  refine g12_14 X I (k := 123) (by decide) rfl lf_X12_125 dX12_clause_261 ?_
                  have ho205 := ho.1
                  have ho := ho.2
                  refine r_ald X I (k := 127) (n := 5) (by decide) rfl ho205 dX12_clause_264 ?_
                  have ho206 := ho.1
                  have ho := ho.2
                  refine r_ast X I (k := 131) (n := 700) (by decide) rfl ho206 dX12_clause_265 (fun H locs I => ?_)
                  refine lv_aload_n X.1 X.2.1 dX12_clause_266 rfl (lv_at hl 2 rfl) ?_
                  refine g12_9 X I (k := 123) (by decide) rfl lf_X12_22 dX12_clause_267 ?_
                  refine lv_aload_n X.1 X.2.1 dX12_clause_270 rfl (lv_at hl 2 rfl) ?_
                  refine g12_14 X I (k := 123) (by decide) rfl lf_X12_125 dX12_clause_271 ?_
                  refine lv_dup2_11 X.1 X.2.1 dX12_clause_274 rfl rfl ?_
                  have ho207 := ho.1
                  have ho := ho.2
                  refine r_ald X I (k := 128) (n := 5) (by decide) rfl ho207 dX12_clause_275 ?_
                  refine lv_iconst (v := 1) X.1 X.2.1 dX12_clause_276 (by decide) ?_
                  refine lv_iadd X.1 X.2.1 dX12_clause_277 ?_
                  have ho208 := ho.1
                  have ho := ho.2
                  refine r_ast X I (k := 128) (n := 5) (by decide) rfl ho208 dX12_clause_278 (fun H locs I => ?_)
                  have h9 := hE
                  exact r_vret X I (e_v h9.symm rfl) dX12_clause_279
                · skip
                  have hE := ite_t hE c_76
                  have ho := ite_tP ho c_76
                  refine lv_aload_n X.1 X.2.1 dX12_clause_208 rfl (lv_at hl 2 rfl) ?_
                  have ho209 := ho.1
                  have ho := ho.2
                  refine r_ei I (r_runV X I pk_X12_look (c12_look l G _ _ ho209) lm_X12_134 (by decide) (cl_12 rfl) rfl rfl rfl hl.1 rfl (Nat.le_of_ble_eq_true rfl) dX12_clause_209 ⟨Nat.le_of_ble_eq_true rfl, Nat.le_of_ble_eq_true rfl⟩ ⟨Nat.le_refl 0, Nat.le_refl 0⟩) (fun H locs I => ?_)
                  refine lv_bipush (v := 63) X.1 X.2.1 dX12_clause_212 (by decide) ?_
                  refine lv_icmp_eq (tgt := 222) X.1 X.2.1 dX12_clause_214 (by decide) (fun c_77 => ?_) (fun c_77 => ?_)
                  · skip
                    have hE := ite_t hE c_77
                    have ho := ite_tP ho c_77
                    refine lv_aload_n X.1 X.2.1 dX12_clause_222 rfl (lv_at hl 2 rfl) ?_
                    refine lv_dup X.1 X.2.1 dX12_clause_223 rfl ?_
                    refine g12_3 X I (k := 123) (by decide) rfl lf_X12_115 dX12_clause_224 ?_
                    refine lv_iconst (v := 1) X.1 X.2.1 dX12_clause_227 (by decide) ?_
                    refine lv_iadd X.1 X.2.1 dX12_clause_228 ?_
                    refine p12_3 X I (k := 123) (by decide) rfl lf_X12_115 dX12_clause_229 (fun H locs I => ?_)
                    refine lv_aload_n X.1 X.2.1 dX12_clause_232 rfl (lv_at hl 2 rfl) ?_
                    refine g12_11 X I (k := 123) (by decide) rfl lf_X12_28 dX12_clause_233 ?_
                    refine lv_iload_n X.1 X.2.1 dX12_clause_236 rfl (lv_at hl 1 rfl) ?_
                    refine lv_aload_n X.1 X.2.1 dX12_clause_237 rfl (lv_at hl 2 rfl) ?_
                    refine g12_8 X I (k := 123) (by decide) rfl lf_X12_19 dX12_clause_238 ?_
                    refine lv_aload_n X.1 X.2.1 dX12_clause_241 rfl (lv_at hl 2 rfl) ?_
                    refine g12_14 X I (k := 123) (by decide) rfl lf_X12_125 dX12_clause_242 ?_
                    have ho210 := ho.1
                    have ho := ho.2
                    refine r_ald X I (k := 127) (n := 5) (by decide) rfl ho210 dX12_clause_245 ?_
                    have ho211 := ho.1
                    have ho := ho.2
                    refine r_ast X I (k := 130) (n := 700) (by decide) rfl ho211 dX12_clause_246 (fun H locs I => ?_)
                    refine lv_aload_n X.1 X.2.1 dX12_clause_247 rfl (lv_at hl 2 rfl) ?_
                    have ho212 := ho.1
                    have ho := ho.2
                    refine r_ev I (r_runV X I pk_X12_sum (c12_sumR l G _ _ ho212) lm_X12_155 (by decide) (cl_12 rfl) rfl rfl rfl hl.1 rfl (Nat.le_of_ble_eq_true rfl) dX12_clause_248 ⟨Nat.le_of_ble_eq_true rfl, Nat.le_of_ble_eq_true rfl⟩ ⟨Nat.le_refl 0, Nat.le_refl 0⟩) (fun H locs I => ?_)
                    refine lv_aload_n X.1 X.2.1 dX12_clause_251 rfl (lv_at hl 2 rfl) ?_
                    refine g12_12 X I (k := 123) (by decide) rfl lf_X12_31 dX12_clause_252 ?_
                    refine lv_iload_n X.1 X.2.1 dX12_clause_255 rfl (lv_at hl 1 rfl) ?_
                    refine lv_aload_n X.1 X.2.1 dX12_clause_256 rfl (lv_at hl 2 rfl) ?_
                    refine g12_8 X I (k := 123) (by decide) rfl lf_X12_19 dX12_clause_257 ?_
                    refine lv_aload_n X.1 X.2.1 dX12_clause_260 rfl (lv_at hl 2 rfl) ?_
                    refine g12_14 X I (k := 123) (by decide) rfl lf_X12_125 dX12_clause_261 ?_
                    have ho213 := ho.1
                    have ho := ho.2
                    refine r_ald X I (k := 127) (n := 5) (by decide) rfl ho213 dX12_clause_264 ?_
                    have ho214 := ho.1
                    have ho := ho.2
                    refine r_ast X I (k := 131) (n := 700) (by decide) rfl ho214 dX12_clause_265 (fun H locs I => ?_)
                    refine lv_aload_n X.1 X.2.1 dX12_clause_266 rfl (lv_at hl 2 rfl) ?_
                    refine g12_9 X I (k := 123) (by decide) rfl lf_X12_22 dX12_clause_267 ?_
                    refine lv_aload_n X.1 X.2.1 dX12_clause_270 rfl (lv_at hl 2 rfl) ?_
                    refine g12_14 X I (k := 123) (by decide) rfl lf_X12_125 dX12_clause_271 ?_
                    refine lv_dup2_11 X.1 X.2.1 dX12_clause_274 rfl rfl ?_
                    have ho215 := ho.1
                    have ho := ho.2
                    refine r_ald X I (k := 128) (n := 5) (by decide) rfl ho215 dX12_clause_275 ?_
                    refine lv_iconst (v := 1) X.1 X.2.1 dX12_clause_276 (by decide) ?_
                    refine lv_iadd X.1 X.2.1 dX12_clause_277 ?_
                    have ho216 := ho.1
                    have ho := ho.2
                    refine r_ast X I (k := 128) (n := 5) (by decide) rfl ho216 dX12_clause_278 (fun H locs I => ?_)
                    have h9 := hE
                    exact r_vret X I (e_v h9.symm rfl) dX12_clause_279
                  · skip
                    have hE := ite_f hE c_77
                    have ho := ite_fP ho c_77
                    refine lv_aload_n X.1 X.2.1 dX12_clause_217 rfl (lv_at hl 2 rfl) ?_
                    refine r_ev I (r_runV X I pk_X12_bad (c12_bad l G _ _) lm_X12_131 (by decide) (cl_12 rfl) rfl rfl rfl hl.1 rfl (Nat.le_of_ble_eq_true rfl) dX12_clause_218 ⟨Nat.le_of_ble_eq_true rfl, Nat.le_of_ble_eq_true rfl⟩ ⟨Nat.le_refl 0, Nat.le_refl 0⟩) (fun H locs I => ?_)
                    have h9 := hE
                    exact r_vret X I (e_v h9.symm rfl) dX12_clause_221
          · skip
            have hE := ite_f hE c_73
            have ho := ite_fP ho c_73
            refine lv_aload_n X.1 X.2.1 dX12_clause_114 rfl (lv_at hl 1 rfl) ?_
            have ho217 := ho.1
            have ho := ho.2
            refine r_ei I (r_runV X I pk_X12_look (c12_look l G _ _ ho217) lm_X12_134 (by decide) (cl_12 rfl) rfl rfl rfl hl.1 rfl (Nat.le_of_ble_eq_true rfl) dX12_clause_115 ⟨Nat.le_of_ble_eq_true rfl, Nat.le_of_ble_eq_true rfl⟩ ⟨Nat.le_refl 0, Nat.le_refl 0⟩) (fun H locs I => ?_)
            refine lv_bipush (v := 40) X.1 X.2.1 dX12_clause_118 (by decide) ?_
            refine lv_icmp_ne (tgt := 127) X.1 X.2.1 dX12_clause_120 (by decide) (fun c_78 => ?_) (fun c_78 => ?_)
            · skip
              have hE := ite_f hE c_78
              have ho := ite_fP ho c_78
              refine lv_iconst (v := 0) X.1 X.2.1 dX12_clause_127 (by decide) ?_
              refine lv_istore_n (lv' := [(2, .int _), (1, .int _), (0, .ref _)]) X.1 X.2.1 dX12_clause_128 rfl hl (by decide) rfl (fun ls hl => ?_)
              refine lv_iload_n X.1 X.2.1 dX12_clause_129 rfl (lv_at hl 0 rfl) ?_
              refine lv_if_eq (tgt := 140) X.1 X.2.1 dX12_clause_130 (by decide) (fun c_79 => ?_) (fun c_79 => ?_)
              · skip
                refine lv_aload_n X.1 X.2.1 dX12_clause_140 rfl (lv_at hl 2 rfl) ?_
                have ho218 := ho.1
                have ho := ho.2
                refine r_ev I (r_runV X I pk_X12_sum (c12_sumR l G _ _ ho218) lm_X12_155 (by decide) (cl_12 rfl) rfl rfl rfl hl.1 rfl (Nat.le_of_ble_eq_true rfl) dX12_clause_141 ⟨Nat.le_of_ble_eq_true rfl, Nat.le_of_ble_eq_true rfl⟩ ⟨Nat.le_refl 0, Nat.le_refl 0⟩) (fun H locs I => ?_)
                refine lv_aload_n X.1 X.2.1 dX12_clause_144 rfl (lv_at hl 2 rfl) ?_
                refine g12_4 X I (k := 123) (by decide) rfl lf_X12_122 dX12_clause_145 ?_
                refine lv_iconst (v := (-1)) X.1 X.2.1 dX12_clause_148 (by decide) ?_
                refine lv_icmp_ne (tgt := 166) X.1 X.2.1 dX12_clause_149 (by decide) (fun c_80 => ?_) (fun c_80 => ?_)
                · skip
                  have hE := ite_f hE c_80
                  have ho := ite_fP ho c_80
                  refine lv_iconst (v := 0) X.1 X.2.1 dX12_clause_166 (by decide) ?_
                  refine lv_istore_n (lv' := [(2, .int _), (1, .int _), (0, .ref _)]) X.1 X.2.1 dX12_clause_167 rfl hl (by decide) rfl (fun ls hl => ?_)
                  refine lv_iload_n X.1 X.2.1 dX12_clause_168 rfl (lv_at hl 0 rfl) ?_
                  refine lv_if_eq (tgt := 184) X.1 X.2.1 dX12_clause_169 (by decide) (fun c_81 => ?_) (fun c_81 => ?_)
                  · skip
                    refine lv_aload_n X.1 X.2.1 dX12_clause_184 rfl (lv_at hl 2 rfl) ?_
                    refine g12_11 X I (k := 123) (by decide) rfl lf_X12_28 dX12_clause_185 ?_
                    refine lv_iload_n X.1 X.2.1 dX12_clause_188 rfl (lv_at hl 1 rfl) ?_
                    refine lv_aload_n X.1 X.2.1 dX12_clause_189 rfl (lv_at hl 2 rfl) ?_
                    refine g12_10 X I (k := 123) (by decide) rfl lf_X12_25 dX12_clause_190 ?_
                    refine lv_iload_n X.1 X.2.1 dX12_clause_193 rfl (lv_at hl 1 rfl) ?_
                    have ho219 := ho.1
                    have ho := ho.2
                    refine r_ald X I (k := 129) (n := 700) (by decide) rfl ho219 dX12_clause_194 ?_
                    have ho220 := ho.1
                    have ho := ho.2
                    refine r_ast X I (k := 130) (n := 700) (by decide) rfl ho220 dX12_clause_195 (fun H locs I => ?_)
                    refine lv_iload_n X.1 X.2.1 dX12_clause_196 rfl (lv_at hl 0 rfl) ?_
                    refine lv_if_eq (tgt := 251) X.1 X.2.1 dX12_clause_197 (by decide) (fun c_82 => ?_) (fun c_82 => ?_)
                    · skip
                      refine lv_aload_n X.1 X.2.1 dX12_clause_251 rfl (lv_at hl 2 rfl) ?_
                      refine g12_12 X I (k := 123) (by decide) rfl lf_X12_31 dX12_clause_252 ?_
                      refine lv_iload_n X.1 X.2.1 dX12_clause_255 rfl (lv_at hl 1 rfl) ?_
                      refine lv_aload_n X.1 X.2.1 dX12_clause_256 rfl (lv_at hl 2 rfl) ?_
                      refine g12_8 X I (k := 123) (by decide) rfl lf_X12_19 dX12_clause_257 ?_
                      refine lv_aload_n X.1 X.2.1 dX12_clause_260 rfl (lv_at hl 2 rfl) ?_
                      refine g12_14 X I (k := 123) (by decide) rfl lf_X12_125 dX12_clause_261 ?_
                      have ho221 := ho.1
                      have ho := ho.2
                      refine r_ald X I (k := 127) (n := 5) (by decide) rfl ho221 dX12_clause_264 ?_
                      have ho222 := ho.1
                      have ho := ho.2
                      refine r_ast X I (k := 131) (n := 700) (by decide) rfl ho222 dX12_clause_265 (fun H locs I => ?_)
                      refine lv_aload_n X.1 X.2.1 dX12_clause_266 rfl (lv_at hl 2 rfl) ?_
                      refine g12_9 X I (k := 123) (by decide) rfl lf_X12_22 dX12_clause_267 ?_
                      refine lv_aload_n X.1 X.2.1 dX12_clause_270 rfl (lv_at hl 2 rfl) ?_
                      refine g12_14 X I (k := 123) (by decide) rfl lf_X12_125 dX12_clause_271 ?_
                      refine lv_dup2_11 X.1 X.2.1 dX12_clause_274 rfl rfl ?_
                      have ho223 := ho.1
                      have ho := ho.2
                      refine r_ald X I (k := 128) (n := 5) (by decide) rfl ho223 dX12_clause_275 ?_
                      refine lv_iconst (v := 1) X.1 X.2.1 dX12_clause_276 (by decide) ?_
                      refine lv_iadd X.1 X.2.1 dX12_clause_277 ?_
                      have ho224 := ho.1
                      have ho := ho.2
                      refine r_ast X I (k := 128) (n := 5) (by decide) rfl ho224 dX12_clause_278 (fun H locs I => ?_)
                      have h9 := hE
                      exact r_vret X I (e_v h9.symm rfl) dX12_clause_279
                    · exact absurd c_82 (by decide)
                  · exact absurd c_81 (by decide)
                · skip
                  have hE := ite_t hE c_80
                  have ho := ite_tP ho c_80
                  refine lv_aload_n X.1 X.2.1 dX12_clause_152 rfl (lv_at hl 2 rfl) ?_
                  have ho225 := ho.1
                  have ho := ho.2
                  refine r_ei I (r_runV X I pk_X12_look (c12_look l G _ _ ho225) lm_X12_134 (by decide) (cl_12 rfl) rfl rfl rfl hl.1 rfl (Nat.le_of_ble_eq_true rfl) dX12_clause_153 ⟨Nat.le_of_ble_eq_true rfl, Nat.le_of_ble_eq_true rfl⟩ ⟨Nat.le_refl 0, Nat.le_refl 0⟩) (fun H locs I => ?_)
                  refine r_ei I (r_runS X I pk_X12_isSign (c12_isSign l G _ _ _) lm_X12_168 rfl hl.1 rfl (Nat.le_of_ble_eq_true rfl) dX12_clause_156 ⟨Nat.le_of_ble_eq_true rfl, Nat.le_of_ble_eq_true rfl⟩ ⟨Nat.le_refl 0, Nat.le_refl 0⟩) (fun H locs I => ?_)
                  refine lv_if_eq (tgt := 166) X.1 X.2.1 dX12_clause_159 (by decide) (fun c_83 => ?_) (fun c_83 => ?_)
                  · skip
                    have hE := ite_f hE (b2i_n c_83)
                    have ho := ite_fP ho (b2i_n c_83)
                    refine lv_iconst (v := 0) X.1 X.2.1 dX12_clause_166 (by decide) ?_
                    refine lv_istore_n (lv' := [(2, .int _), (1, .int _), (0, .ref _)]) X.1 X.2.1 dX12_clause_167 rfl hl (by decide) rfl (fun ls hl => ?_)
                    refine lv_iload_n X.1 X.2.1 dX12_clause_168 rfl (lv_at hl 0 rfl) ?_
                    refine lv_if_eq (tgt := 184) X.1 X.2.1 dX12_clause_169 (by decide) (fun c_84 => ?_) (fun c_84 => ?_)
                    · skip
                      refine lv_aload_n X.1 X.2.1 dX12_clause_184 rfl (lv_at hl 2 rfl) ?_
                      refine g12_11 X I (k := 123) (by decide) rfl lf_X12_28 dX12_clause_185 ?_
                      refine lv_iload_n X.1 X.2.1 dX12_clause_188 rfl (lv_at hl 1 rfl) ?_
                      refine lv_aload_n X.1 X.2.1 dX12_clause_189 rfl (lv_at hl 2 rfl) ?_
                      refine g12_10 X I (k := 123) (by decide) rfl lf_X12_25 dX12_clause_190 ?_
                      refine lv_iload_n X.1 X.2.1 dX12_clause_193 rfl (lv_at hl 1 rfl) ?_
                      have ho226 := ho.1
                      have ho := ho.2
                      refine r_ald X I (k := 129) (n := 700) (by decide) rfl ho226 dX12_clause_194 ?_
                      have ho227 := ho.1
                      have ho := ho.2
                      refine r_ast X I (k := 130) (n := 700) (by decide) rfl ho227 dX12_clause_195 (fun H locs I => ?_)
                      refine lv_iload_n X.1 X.2.1 dX12_clause_196 rfl (lv_at hl 0 rfl) ?_
                      refine lv_if_eq (tgt := 251) X.1 X.2.1 dX12_clause_197 (by decide) (fun c_85 => ?_) (fun c_85 => ?_)
                      · skip
                        refine lv_aload_n X.1 X.2.1 dX12_clause_251 rfl (lv_at hl 2 rfl) ?_
                        refine g12_12 X I (k := 123) (by decide) rfl lf_X12_31 dX12_clause_252 ?_
                        refine lv_iload_n X.1 X.2.1 dX12_clause_255 rfl (lv_at hl 1 rfl) ?_
                        refine lv_aload_n X.1 X.2.1 dX12_clause_256 rfl (lv_at hl 2 rfl) ?_
                        refine g12_8 X I (k := 123) (by decide) rfl lf_X12_19 dX12_clause_257 ?_
                        refine lv_aload_n X.1 X.2.1 dX12_clause_260 rfl (lv_at hl 2 rfl) ?_
                        refine g12_14 X I (k := 123) (by decide) rfl lf_X12_125 dX12_clause_261 ?_
                        have ho228 := ho.1
                        have ho := ho.2
                        refine r_ald X I (k := 127) (n := 5) (by decide) rfl ho228 dX12_clause_264 ?_
                        have ho229 := ho.1
                        have ho := ho.2
                        refine r_ast X I (k := 131) (n := 700) (by decide) rfl ho229 dX12_clause_265 (fun H locs I => ?_)
                        refine lv_aload_n X.1 X.2.1 dX12_clause_266 rfl (lv_at hl 2 rfl) ?_
                        refine g12_9 X I (k := 123) (by decide) rfl lf_X12_22 dX12_clause_267 ?_
                        refine lv_aload_n X.1 X.2.1 dX12_clause_270 rfl (lv_at hl 2 rfl) ?_
                        refine g12_14 X I (k := 123) (by decide) rfl lf_X12_125 dX12_clause_271 ?_
                        refine lv_dup2_11 X.1 X.2.1 dX12_clause_274 rfl rfl ?_
                        have ho230 := ho.1
                        have ho := ho.2
                        refine r_ald X I (k := 128) (n := 5) (by decide) rfl ho230 dX12_clause_275 ?_
                        refine lv_iconst (v := 1) X.1 X.2.1 dX12_clause_276 (by decide) ?_
                        refine lv_iadd X.1 X.2.1 dX12_clause_277 ?_
                        have ho231 := ho.1
                        have ho := ho.2
                        refine r_ast X I (k := 128) (n := 5) (by decide) rfl ho231 dX12_clause_278 (fun H locs I => ?_)
                        have h9 := hE
                        exact r_vret X I (e_v h9.symm rfl) dX12_clause_279
                      · exact absurd c_85 (by decide)
                    · exact absurd c_84 (by decide)
                  · skip
                    have hE := ite_t hE (b2i_y c_83)
                    have ho := ite_tP ho (b2i_y c_83)
                    refine lv_iconst (v := 1) X.1 X.2.1 dX12_clause_162 (by decide) ?_
                    refine lv_goto (tgt := 167) X.1 X.2.1 dX12_clause_163 (by decide) ?_
                    refine lv_istore_n (lv' := [(2, .int _), (1, .int _), (0, .ref _)]) X.1 X.2.1 dX12_clause_167 rfl hl (by decide) rfl (fun ls hl => ?_)
                    refine lv_iload_n X.1 X.2.1 dX12_clause_168 rfl (lv_at hl 0 rfl) ?_
                    refine lv_if_eq (tgt := 184) X.1 X.2.1 dX12_clause_169 (by decide) (fun c_86 => ?_) (fun c_86 => ?_)
                    · exact absurd c_86 (by decide)
                    · skip
                      refine lv_aload_n X.1 X.2.1 dX12_clause_172 rfl (lv_at hl 2 rfl) ?_
                      have ho232 := ho.1
                      have ho := ho.2
                      refine r_ev I (r_runV X I pk_X12_compare (c12_compare l G _ _ ho232) lm_X12_177 (by decide) (cl_12 rfl) rfl rfl rfl hl.1 rfl (Nat.le_of_ble_eq_true rfl) dX12_clause_173 ⟨Nat.le_of_ble_eq_true rfl, Nat.le_of_ble_eq_true rfl⟩ ⟨Nat.le_refl 0, Nat.le_refl 0⟩) (fun H locs I => ?_)
                      refine lv_aload_n X.1 X.2.1 dX12_clause_176 rfl (lv_at hl 2 rfl) ?_
                      have ho233 := ho.1
                      have ho := ho.2
                      refine r_ev I (r_runV X I pk_X12_goOnAnd (c12_goOnAndR l G _ _ ho233) lm_X12_180 (by decide) (cl_12 rfl) rfl rfl rfl hl.1 rfl (Nat.le_of_ble_eq_true rfl) dX12_clause_177 ⟨Nat.le_of_ble_eq_true rfl, Nat.le_of_ble_eq_true rfl⟩ ⟨Nat.le_refl 0, Nat.le_refl 0⟩) (fun H locs I => ?_)
                      refine lv_aload_n X.1 X.2.1 dX12_clause_180 rfl (lv_at hl 2 rfl) ?_
                      have ho234 := ho.1
                      have ho := ho.2
                      refine r_ev I (r_runV X I pk_X12_goOnOr (c12_goOnOrR l G _ _ ho234) lm_X12_183 (by decide) (cl_12 rfl) rfl rfl rfl hl.1 rfl (Nat.le_of_ble_eq_true rfl) dX12_clause_181 ⟨Nat.le_of_ble_eq_true rfl, Nat.le_of_ble_eq_true rfl⟩ ⟨Nat.le_refl 0, Nat.le_refl 0⟩) (fun H locs I => ?_)
                      refine lv_aload_n X.1 X.2.1 dX12_clause_184 rfl (lv_at hl 2 rfl) ?_
                      refine g12_11 X I (k := 123) (by decide) rfl lf_X12_28 dX12_clause_185 ?_
                      refine lv_iload_n X.1 X.2.1 dX12_clause_188 rfl (lv_at hl 1 rfl) ?_
                      refine lv_aload_n X.1 X.2.1 dX12_clause_189 rfl (lv_at hl 2 rfl) ?_
                      refine g12_10 X I (k := 123) (by decide) rfl lf_X12_25 dX12_clause_190 ?_
                      refine lv_iload_n X.1 X.2.1 dX12_clause_193 rfl (lv_at hl 1 rfl) ?_
                      have ho235 := ho.1
                      have ho := ho.2
                      refine r_ald X I (k := 129) (n := 700) (by decide) rfl ho235 dX12_clause_194 ?_
                      have ho236 := ho.1
                      have ho := ho.2
                      refine r_ast X I (k := 130) (n := 700) (by decide) rfl ho236 dX12_clause_195 (fun H locs I => ?_)
                      refine lv_iload_n X.1 X.2.1 dX12_clause_196 rfl (lv_at hl 0 rfl) ?_
                      refine lv_if_eq (tgt := 251) X.1 X.2.1 dX12_clause_197 (by decide) (fun c_87 => ?_) (fun c_87 => ?_)
                      · exact absurd c_87 (by decide)
                      · skip
                        refine lv_aload_n X.1 X.2.1 dX12_clause_200 rfl (lv_at hl 2 rfl) ?_
                        refine g12_4 X I (k := 123) (by decide) rfl lf_X12_122 dX12_clause_201 ?_
                        refine lv_iconst (v := (-1)) X.1 X.2.1 dX12_clause_204 (by decide) ?_
                        refine lv_icmp_ne (tgt := 251) X.1 X.2.1 dX12_clause_205 (by decide) (fun c_88 => ?_) (fun c_88 => ?_)
                        · skip
                          have hE := ite_f hE c_88
                          have ho := ite_fP ho c_88
                          refine lv_aload_n X.1 X.2.1 dX12_clause_251 rfl (lv_at hl 2 rfl) ?_
                          refine g12_12 X I (k := 123) (by decide) rfl lf_X12_31 dX12_clause_252 ?_
                          refine lv_iload_n X.1 X.2.1 dX12_clause_255 rfl (lv_at hl 1 rfl) ?_
                          refine lv_aload_n X.1 X.2.1 dX12_clause_256 rfl (lv_at hl 2 rfl) ?_
                          refine g12_8 X I (k := 123) (by decide) rfl lf_X12_19 dX12_clause_257 ?_
                          refine lv_aload_n X.1 X.2.1 dX12_clause_260 rfl (lv_at hl 2 rfl) ?_
                          refine g12_14 X I (k := 123) (by decide) rfl lf_X12_125 dX12_clause_261 ?_
                          have ho237 := ho.1
                          have ho := ho.2
                          refine r_ald X I (k := 127) (n := 5) (by decide) rfl ho237 dX12_clause_264 ?_
                          have ho238 := ho.1
                          have ho := ho.2
                          refine r_ast X I (k := 131) (n := 700) (by decide) rfl ho238 dX12_clause_265 (fun H locs I => ?_)
                          refine lv_aload_n X.1 X.2.1 dX12_clause_266 rfl (lv_at hl 2 rfl) ?_
                          refine g12_9 X I (k := 123) (by decide) rfl lf_X12_22 dX12_clause_267 ?_
                          refine lv_aload_n X.1 X.2.1 dX12_clause_270 rfl (lv_at hl 2 rfl) ?_
                          refine g12_14 X I (k := 123) (by decide) rfl lf_X12_125 dX12_clause_271 ?_
                          refine lv_dup2_11 X.1 X.2.1 dX12_clause_274 rfl rfl ?_
                          have ho239 := ho.1
                          have ho := ho.2
                          refine r_ald X I (k := 128) (n := 5) (by decide) rfl ho239 dX12_clause_275 ?_
                          refine lv_iconst (v := 1) X.1 X.2.1 dX12_clause_276 (by decide) ?_
                          refine lv_iadd X.1 X.2.1 dX12_clause_277 ?_
                          have ho240 := ho.1
                          have ho := ho.2
                          refine r_ast X I (k := 128) (n := 5) (by decide) rfl ho240 dX12_clause_278 (fun H locs I => ?_)
                          have h9 := hE
                          exact r_vret X I (e_v h9.symm rfl) dX12_clause_279
                        · skip
                          have hE := ite_t hE c_88
                          have ho := ite_tP ho c_88
                          refine lv_aload_n X.1 X.2.1 dX12_clause_208 rfl (lv_at hl 2 rfl) ?_
                          have ho241 := ho.1
                          have ho := ho.2
                          refine r_ei I (r_runV X I pk_X12_look (c12_look l G _ _ ho241) lm_X12_134 (by decide) (cl_12 rfl) rfl rfl rfl hl.1 rfl (Nat.le_of_ble_eq_true rfl) dX12_clause_209 ⟨Nat.le_of_ble_eq_true rfl, Nat.le_of_ble_eq_true rfl⟩ ⟨Nat.le_refl 0, Nat.le_refl 0⟩) (fun H locs I => ?_)
                          refine lv_bipush (v := 63) X.1 X.2.1 dX12_clause_212 (by decide) ?_
                          refine lv_icmp_eq (tgt := 222) X.1 X.2.1 dX12_clause_214 (by decide) (fun c_89 => ?_) (fun c_89 => ?_)
                          · skip
                            have hE := ite_t hE c_89
                            have ho := ite_tP ho c_89
                            refine lv_aload_n X.1 X.2.1 dX12_clause_222 rfl (lv_at hl 2 rfl) ?_
                            refine lv_dup X.1 X.2.1 dX12_clause_223 rfl ?_
                            refine g12_3 X I (k := 123) (by decide) rfl lf_X12_115 dX12_clause_224 ?_
                            refine lv_iconst (v := 1) X.1 X.2.1 dX12_clause_227 (by decide) ?_
                            refine lv_iadd X.1 X.2.1 dX12_clause_228 ?_
                            refine p12_3 X I (k := 123) (by decide) rfl lf_X12_115 dX12_clause_229 (fun H locs I => ?_)
                            refine lv_aload_n X.1 X.2.1 dX12_clause_232 rfl (lv_at hl 2 rfl) ?_
                            refine g12_11 X I (k := 123) (by decide) rfl lf_X12_28 dX12_clause_233 ?_
                            refine lv_iload_n X.1 X.2.1 dX12_clause_236 rfl (lv_at hl 1 rfl) ?_
                            refine lv_aload_n X.1 X.2.1 dX12_clause_237 rfl (lv_at hl 2 rfl) ?_
                            refine g12_8 X I (k := 123) (by decide) rfl lf_X12_19 dX12_clause_238 ?_
                            refine lv_aload_n X.1 X.2.1 dX12_clause_241 rfl (lv_at hl 2 rfl) ?_
                            refine g12_14 X I (k := 123) (by decide) rfl lf_X12_125 dX12_clause_242 ?_
                            have ho242 := ho.1
                            have ho := ho.2
                            refine r_ald X I (k := 127) (n := 5) (by decide) rfl ho242 dX12_clause_245 ?_
                            have ho243 := ho.1
                            have ho := ho.2
                            refine r_ast X I (k := 130) (n := 700) (by decide) rfl ho243 dX12_clause_246 (fun H locs I => ?_)
                            refine lv_aload_n X.1 X.2.1 dX12_clause_247 rfl (lv_at hl 2 rfl) ?_
                            have ho244 := ho.1
                            have ho := ho.2
                            refine r_ev I (r_runV X I pk_X12_sum (c12_sumR l G _ _ ho244) lm_X12_155 (by decide) (cl_12 rfl) rfl rfl rfl hl.1 rfl (Nat.le_of_ble_eq_true rfl) dX12_clause_248 ⟨Nat.le_of_ble_eq_true rfl, Nat.le_of_ble_eq_true rfl⟩ ⟨Nat.le_refl 0, Nat.le_refl 0⟩) (fun H locs I => ?_)
                            refine lv_aload_n X.1 X.2.1 dX12_clause_251 rfl (lv_at hl 2 rfl) ?_
                            refine g12_12 X I (k := 123) (by decide) rfl lf_X12_31 dX12_clause_252 ?_
                            refine lv_iload_n X.1 X.2.1 dX12_clause_255 rfl (lv_at hl 1 rfl) ?_
                            refine lv_aload_n X.1 X.2.1 dX12_clause_256 rfl (lv_at hl 2 rfl) ?_
                            refine g12_8 X I (k := 123) (by decide) rfl lf_X12_19 dX12_clause_257 ?_
                            refine lv_aload_n X.1 X.2.1 dX12_clause_260 rfl (lv_at hl 2 rfl) ?_
                            refine g12_14 X I (k := 123) (by decide) rfl lf_X12_125 dX12_clause_261 ?_
                            have ho245 := ho.1
                            have ho := ho.2
                            refine r_ald X I (k := 127) (n := 5) (by decide) rfl ho245 dX12_clause_264 ?_
                            have ho246 := ho.1
                            have ho := ho.2
                            refine r_ast X I (k := 131) (n := 700) (by decide) rfl ho246 dX12_clause_265 (fun H locs I => ?_)
                            refine lv_aload_n X.1 X.2.1 dX12_clause_266 rfl (lv_at hl 2 rfl) ?_
                            refine g12_9 X I (k := 123) (by decide) rfl lf_X12_22 dX12_clause_267 ?_
                            refine lv_aload_n X.1 X.2.1 dX12_clause_270 rfl (lv_at hl 2 rfl) ?_
                            refine g12_14 X I (k := 123) (by decide) rfl lf_X12_125 dX12_clause_271 ?_
                            refine lv_dup2_11 X.1 X.2.1 dX12_clause_274 rfl rfl ?_
                            have ho247 := ho.1
                            have ho := ho.2
                            refine r_ald X I (k := 128) (n := 5) (by decide) rfl ho247 dX12_clause_275 ?_
                            refine lv_iconst (v := 1) X.1 X.2.1 dX12_clause_276 (by decide) ?_
                            refine lv_iadd X.1 X.2.1 dX12_clause_277 ?_
                            have ho248 := ho.1
                            have ho := ho.2
                            refine r_ast X I (k := 128) (n := 5) (by decide) rfl ho248 dX12_clause_278 (fun H locs I => ?_)
                            have h9 := hE
                            exact r_vret X I (e_v h9.symm rfl) dX12_clause_279
                          · skip
                            have hE := ite_f hE c_89
                            have ho := ite_fP ho c_89
                            refine lv_aload_n X.1 X.2.1 dX12_clause_217 rfl (lv_at hl 2 rfl) ?_
                            refine r_ev I (r_runV X I pk_X12_bad (c12_bad l G _ _) lm_X12_131 (by decide) (cl_12 rfl) rfl rfl rfl hl.1 rfl (Nat.le_of_ble_eq_true rfl) dX12_clause_218 ⟨Nat.le_of_ble_eq_true rfl, Nat.le_of_ble_eq_true rfl⟩ ⟨Nat.le_refl 0, Nat.le_refl 0⟩) (fun H locs I => ?_)
                            have h9 := hE
                            exact r_vret X I (e_v h9.symm rfl) dX12_clause_221
              · exact absurd c_79 (by decide)
            · skip
              have hE := ite_t hE c_78
              have ho := ite_tP ho c_78
              refine lv_iconst (v := 1) X.1 X.2.1 dX12_clause_123 (by decide) ?_
              refine lv_goto (tgt := 128) X.1 X.2.1 dX12_clause_124 (by decide) ?_
              refine lv_istore_n (lv' := [(2, .int _), (1, .int _), (0, .ref _)]) X.1 X.2.1 dX12_clause_128 rfl hl (by decide) rfl (fun ls hl => ?_)
              refine lv_iload_n X.1 X.2.1 dX12_clause_129 rfl (lv_at hl 0 rfl) ?_
              refine lv_if_eq (tgt := 140) X.1 X.2.1 dX12_clause_130 (by decide) (fun c_90 => ?_) (fun c_90 => ?_)
              · exact absurd c_90 (by decide)
              · skip
                refine lv_aload_n X.1 X.2.1 dX12_clause_133 rfl (lv_at hl 2 rfl) ?_
                have ho249 := ho.1
                have ho := ho.2
                refine r_ev I (r_runV X I pk_X12_condition (c12_conditionR l G _ _ ho249) lm_X12_174 (by decide) (cl_12 rfl) rfl rfl rfl hl.1 rfl (Nat.le_of_ble_eq_true rfl) dX12_clause_134 ⟨Nat.le_of_ble_eq_true rfl, Nat.le_of_ble_eq_true rfl⟩ ⟨Nat.le_refl 0, Nat.le_refl 0⟩) (fun H locs I => ?_)
                refine lv_goto (tgt := 184) X.1 X.2.1 dX12_clause_137 (by decide) ?_
                refine lv_aload_n X.1 X.2.1 dX12_clause_184 rfl (lv_at hl 2 rfl) ?_
                refine g12_11 X I (k := 123) (by decide) rfl lf_X12_28 dX12_clause_185 ?_
                refine lv_iload_n X.1 X.2.1 dX12_clause_188 rfl (lv_at hl 1 rfl) ?_
                refine lv_aload_n X.1 X.2.1 dX12_clause_189 rfl (lv_at hl 2 rfl) ?_
                refine g12_10 X I (k := 123) (by decide) rfl lf_X12_25 dX12_clause_190 ?_
                refine lv_iload_n X.1 X.2.1 dX12_clause_193 rfl (lv_at hl 1 rfl) ?_
                have ho250 := ho.1
                have ho := ho.2
                refine r_ald X I (k := 129) (n := 700) (by decide) rfl ho250 dX12_clause_194 ?_
                have ho251 := ho.1
                have ho := ho.2
                refine r_ast X I (k := 130) (n := 700) (by decide) rfl ho251 dX12_clause_195 (fun H locs I => ?_)
                refine lv_iload_n X.1 X.2.1 dX12_clause_196 rfl (lv_at hl 0 rfl) ?_
                refine lv_if_eq (tgt := 251) X.1 X.2.1 dX12_clause_197 (by decide) (fun c_91 => ?_) (fun c_91 => ?_)
                · exact absurd c_91 (by decide)
                · skip
                  refine lv_aload_n X.1 X.2.1 dX12_clause_200 rfl (lv_at hl 2 rfl) ?_
                  refine g12_4 X I (k := 123) (by decide) rfl lf_X12_122 dX12_clause_201 ?_
                  refine lv_iconst (v := (-1)) X.1 X.2.1 dX12_clause_204 (by decide) ?_
                  refine lv_icmp_ne (tgt := 251) X.1 X.2.1 dX12_clause_205 (by decide) (fun c_92 => ?_) (fun c_92 => ?_)
                  · skip
                    have hE := ite_f hE c_92
                    have ho := ite_fP ho c_92
                    refine lv_aload_n X.1 X.2.1 dX12_clause_251 rfl (lv_at hl 2 rfl) ?_
                    refine g12_12 X I (k := 123) (by decide) rfl lf_X12_31 dX12_clause_252 ?_
                    refine lv_iload_n X.1 X.2.1 dX12_clause_255 rfl (lv_at hl 1 rfl) ?_
                    refine lv_aload_n X.1 X.2.1 dX12_clause_256 rfl (lv_at hl 2 rfl) ?_
                    refine g12_8 X I (k := 123) (by decide) rfl lf_X12_19 dX12_clause_257 ?_
                    refine lv_aload_n X.1 X.2.1 dX12_clause_260 rfl (lv_at hl 2 rfl) ?_
                    refine g12_14 X I (k := 123) (by decide) rfl lf_X12_125 dX12_clause_261 ?_
                    have ho252 := ho.1
                    have ho := ho.2
                    refine r_ald X I (k := 127) (n := 5) (by decide) rfl ho252 dX12_clause_264 ?_
                    have ho253 := ho.1
                    have ho := ho.2
                    refine r_ast X I (k := 131) (n := 700) (by decide) rfl ho253 dX12_clause_265 (fun H locs I => ?_)
                    refine lv_aload_n X.1 X.2.1 dX12_clause_266 rfl (lv_at hl 2 rfl) ?_
                    refine g12_9 X I (k := 123) (by decide) rfl lf_X12_22 dX12_clause_267 ?_
                    refine lv_aload_n X.1 X.2.1 dX12_clause_270 rfl (lv_at hl 2 rfl) ?_
                    refine g12_14 X I (k := 123) (by decide) rfl lf_X12_125 dX12_clause_271 ?_
                    refine lv_dup2_11 X.1 X.2.1 dX12_clause_274 rfl rfl ?_
                    have ho254 := ho.1
                    have ho := ho.2
                    refine r_ald X I (k := 128) (n := 5) (by decide) rfl ho254 dX12_clause_275 ?_
                    refine lv_iconst (v := 1) X.1 X.2.1 dX12_clause_276 (by decide) ?_
                    refine lv_iadd X.1 X.2.1 dX12_clause_277 ?_
                    have ho255 := ho.1
                    have ho := ho.2
                    refine r_ast X I (k := 128) (n := 5) (by decide) rfl ho255 dX12_clause_278 (fun H locs I => ?_)
                    have h9 := hE
                    exact r_vret X I (e_v h9.symm rfl) dX12_clause_279
                  · skip
                    have hE := ite_t hE c_92
                    have ho := ite_tP ho c_92
                    refine lv_aload_n X.1 X.2.1 dX12_clause_208 rfl (lv_at hl 2 rfl) ?_
                    have ho256 := ho.1
                    have ho := ho.2
                    refine r_ei I (r_runV X I pk_X12_look (c12_look l G _ _ ho256) lm_X12_134 (by decide) (cl_12 rfl) rfl rfl rfl hl.1 rfl (Nat.le_of_ble_eq_true rfl) dX12_clause_209 ⟨Nat.le_of_ble_eq_true rfl, Nat.le_of_ble_eq_true rfl⟩ ⟨Nat.le_refl 0, Nat.le_refl 0⟩) (fun H locs I => ?_)
                    refine lv_bipush (v := 63) X.1 X.2.1 dX12_clause_212 (by decide) ?_
                    refine lv_icmp_eq (tgt := 222) X.1 X.2.1 dX12_clause_214 (by decide) (fun c_93 => ?_) (fun c_93 => ?_)
                    · skip
                      have hE := ite_t hE c_93
                      have ho := ite_tP ho c_93
                      refine lv_aload_n X.1 X.2.1 dX12_clause_222 rfl (lv_at hl 2 rfl) ?_
                      refine lv_dup X.1 X.2.1 dX12_clause_223 rfl ?_
                      refine g12_3 X I (k := 123) (by decide) rfl lf_X12_115 dX12_clause_224 ?_
                      refine lv_iconst (v := 1) X.1 X.2.1 dX12_clause_227 (by decide) ?_
                      refine lv_iadd X.1 X.2.1 dX12_clause_228 ?_
                      refine p12_3 X I (k := 123) (by decide) rfl lf_X12_115 dX12_clause_229 (fun H locs I => ?_)
                      refine lv_aload_n X.1 X.2.1 dX12_clause_232 rfl (lv_at hl 2 rfl) ?_
                      refine g12_11 X I (k := 123) (by decide) rfl lf_X12_28 dX12_clause_233 ?_
                      refine lv_iload_n X.1 X.2.1 dX12_clause_236 rfl (lv_at hl 1 rfl) ?_
                      refine lv_aload_n X.1 X.2.1 dX12_clause_237 rfl (lv_at hl 2 rfl) ?_
                      refine g12_8 X I (k := 123) (by decide) rfl lf_X12_19 dX12_clause_238 ?_
                      refine lv_aload_n X.1 X.2.1 dX12_clause_241 rfl (lv_at hl 2 rfl) ?_
                      refine g12_14 X I (k := 123) (by decide) rfl lf_X12_125 dX12_clause_242 ?_
                      have ho257 := ho.1
                      have ho := ho.2
                      refine r_ald X I (k := 127) (n := 5) (by decide) rfl ho257 dX12_clause_245 ?_
                      have ho258 := ho.1
                      have ho := ho.2
                      refine r_ast X I (k := 130) (n := 700) (by decide) rfl ho258 dX12_clause_246 (fun H locs I => ?_)
                      refine lv_aload_n X.1 X.2.1 dX12_clause_247 rfl (lv_at hl 2 rfl) ?_
                      have ho259 := ho.1
                      have ho := ho.2
                      refine r_ev I (r_runV X I pk_X12_sum (c12_sumR l G _ _ ho259) lm_X12_155 (by decide) (cl_12 rfl) rfl rfl rfl hl.1 rfl (Nat.le_of_ble_eq_true rfl) dX12_clause_248 ⟨Nat.le_of_ble_eq_true rfl, Nat.le_of_ble_eq_true rfl⟩ ⟨Nat.le_refl 0, Nat.le_refl 0⟩) (fun H locs I => ?_)
                      refine lv_aload_n X.1 X.2.1 dX12_clause_251 rfl (lv_at hl 2 rfl) ?_
                      refine g12_12 X I (k := 123) (by decide) rfl lf_X12_31 dX12_clause_252 ?_
                      refine lv_iload_n X.1 X.2.1 dX12_clause_255 rfl (lv_at hl 1 rfl) ?_
                      refine lv_aload_n X.1 X.2.1 dX12_clause_256 rfl (lv_at hl 2 rfl) ?_
                      refine g12_8 X I (k := 123) (by decide) rfl lf_X12_19 dX12_clause_257 ?_
                      refine lv_aload_n X.1 X.2.1 dX12_clause_260 rfl (lv_at hl 2 rfl) ?_
                      refine g12_14 X I (k := 123) (by decide) rfl lf_X12_125 dX12_clause_261 ?_
                      have ho260 := ho.1
                      have ho := ho.2
                      refine r_ald X I (k := 127) (n := 5) (by decide) rfl ho260 dX12_clause_264 ?_
                      have ho261 := ho.1
                      have ho := ho.2
                      refine r_ast X I (k := 131) (n := 700) (by decide) rfl ho261 dX12_clause_265 (fun H locs I => ?_)
                      refine lv_aload_n X.1 X.2.1 dX12_clause_266 rfl (lv_at hl 2 rfl) ?_
                      refine g12_9 X I (k := 123) (by decide) rfl lf_X12_22 dX12_clause_267 ?_
                      refine lv_aload_n X.1 X.2.1 dX12_clause_270 rfl (lv_at hl 2 rfl) ?_
                      refine g12_14 X I (k := 123) (by decide) rfl lf_X12_125 dX12_clause_271 ?_
                      refine lv_dup2_11 X.1 X.2.1 dX12_clause_274 rfl rfl ?_
                      have ho262 := ho.1
                      have ho := ho.2
                      refine r_ald X I (k := 128) (n := 5) (by decide) rfl ho262 dX12_clause_275 ?_
                      refine lv_iconst (v := 1) X.1 X.2.1 dX12_clause_276 (by decide) ?_
                      refine lv_iadd X.1 X.2.1 dX12_clause_277 ?_
                      have ho263 := ho.1
                      have ho := ho.2
                      refine r_ast X I (k := 128) (n := 5) (by decide) rfl ho263 dX12_clause_278 (fun H locs I => ?_)
                      have h9 := hE
                      exact r_vret X I (e_v h9.symm rfl) dX12_clause_279
                    · skip
                      have hE := ite_f hE c_93
                      have ho := ite_fP ho c_93
                      refine lv_aload_n X.1 X.2.1 dX12_clause_217 rfl (lv_at hl 2 rfl) ?_
                      refine r_ev I (r_runV X I pk_X12_bad (c12_bad l G _ _) lm_X12_131 (by decide) (cl_12 rfl) rfl rfl rfl hl.1 rfl (Nat.le_of_ble_eq_true rfl) dX12_clause_218 ⟨Nat.le_of_ble_eq_true rfl, Nat.le_of_ble_eq_true rfl⟩ ⟨Nat.le_refl 0, Nat.le_refl 0⟩) (fun H locs I => ?_)
                      have h9 := hE
                      exact r_vret X I (e_v h9.symm rfl) dX12_clause_221
        · skip
          have hE := ite_f hE c_72
          have ho := ite_fP ho c_72
          have h9 := hE
          exact r_vret X I (e_v h9.symm rfl) dX12_clause_89
      · skip
        have hE := ite_t hE c_71
        have ho := ite_tP ho c_71
        refine lv_aload_n X.1 X.2.1 dX12_clause_58 rfl (lv_at hl 1 rfl) ?_
        have ho264 := ho.1
        have ho := ho.2
        refine r_ei I (r_runV X I pk_X12_look (c12_look l G _ _ ho264) lm_X12_134 (by decide) (cl_12 rfl) rfl rfl rfl hl.1 rfl (Nat.le_of_ble_eq_true rfl) dX12_clause_59 ⟨Nat.le_of_ble_eq_true rfl, Nat.le_of_ble_eq_true rfl⟩ ⟨Nat.le_refl 0, Nat.le_refl 0⟩) (fun H locs I => ?_)
        refine lv_bipush (v := 58) X.1 X.2.1 dX12_clause_62 (by decide) ?_
        refine lv_icmp_eq (tgt := 71) X.1 X.2.1 dX12_clause_64 (by decide) (fun c_94 => ?_) (fun c_94 => ?_)
        · skip
          have hE := ite_t hE c_94
          have ho := ite_tP ho c_94
          refine lv_aload_n X.1 X.2.1 dX12_clause_71 rfl (lv_at hl 1 rfl) ?_
          refine lv_dup X.1 X.2.1 dX12_clause_72 rfl ?_
          refine g12_3 X I (k := 123) (by decide) rfl lf_X12_115 dX12_clause_73 ?_
          refine lv_iconst (v := 1) X.1 X.2.1 dX12_clause_76 (by decide) ?_
          refine lv_iadd X.1 X.2.1 dX12_clause_77 ?_
          refine p12_3 X I (k := 123) (by decide) rfl lf_X12_115 dX12_clause_78 (fun H locs I => ?_)
          refine lv_aload_n X.1 X.2.1 dX12_clause_81 rfl (lv_at hl 1 rfl) ?_
          refine g12_4 X I (k := 123) (by decide) rfl lf_X12_122 dX12_clause_82 ?_
          refine lv_iconst (v := (-1)) X.1 X.2.1 dX12_clause_85 (by decide) ?_
          refine lv_icmp_eq (tgt := 90) X.1 X.2.1 dX12_clause_86 (by decide) (fun c_95 => ?_) (fun c_95 => ?_)
          · skip
            have hE := ite_t hE c_95
            have ho := ite_tP ho c_95
            refine lv_aload_n X.1 X.2.1 dX12_clause_90 rfl (lv_at hl 1 rfl) ?_
            refine g12_10 X I (k := 123) (by decide) rfl lf_X12_25 dX12_clause_91 ?_
            refine lv_iload_n X.1 X.2.1 dX12_clause_94 rfl (lv_at hl 0 rfl) ?_
            refine lv_aload_n X.1 X.2.1 dX12_clause_95 rfl (lv_at hl 1 rfl) ?_
            refine g12_8 X I (k := 123) (by decide) rfl lf_X12_19 dX12_clause_96 ?_
            refine lv_aload_n X.1 X.2.1 dX12_clause_99 rfl (lv_at hl 1 rfl) ?_
            refine g12_14 X I (k := 123) (by decide) rfl lf_X12_125 dX12_clause_100 ?_
            have ho265 := ho.1
            have ho := ho.2
            refine r_ald X I (k := 127) (n := 5) (by decide) rfl ho265 dX12_clause_103 ?_
            have ho266 := ho.1
            have ho := ho.2
            refine r_ast X I (k := 129) (n := 700) (by decide) rfl ho266 dX12_clause_104 (fun H locs I => ?_)
            refine lv_aload_n X.1 X.2.1 dX12_clause_105 rfl (lv_at hl 1 rfl) ?_
            have ho267 := ho.1
            have ho := ho.2
            refine r_ei I (r_runV X I pk_X12_look (c12_look l G _ _ ho267) lm_X12_134 (by decide) (cl_12 rfl) rfl rfl rfl hl.1 rfl (Nat.le_of_ble_eq_true rfl) dX12_clause_106 ⟨Nat.le_of_ble_eq_true rfl, Nat.le_of_ble_eq_true rfl⟩ ⟨Nat.le_refl 0, Nat.le_refl 0⟩) (fun H locs I => ?_)
            refine lv_bipush (v := 33) X.1 X.2.1 dX12_clause_109 (by decide) ?_
            refine lv_icmp_eq (tgt := 123) X.1 X.2.1 dX12_clause_111 (by decide) (fun c_96 => ?_) (fun c_96 => ?_)
            · skip
              have hE := ite_t hE c_96
              have ho := ite_tP ho c_96
              refine lv_iconst (v := 1) X.1 X.2.1 dX12_clause_123 (by decide) ?_
              refine lv_goto (tgt := 128) X.1 X.2.1 dX12_clause_124 (by decide) ?_
              refine lv_istore_n (lv' := [(2, .int _), (1, .int _), (0, .ref _)]) X.1 X.2.1 dX12_clause_128 rfl hl (by decide) rfl (fun ls hl => ?_)
              refine lv_iload_n X.1 X.2.1 dX12_clause_129 rfl (lv_at hl 0 rfl) ?_
              refine lv_if_eq (tgt := 140) X.1 X.2.1 dX12_clause_130 (by decide) (fun c_97 => ?_) (fun c_97 => ?_)
              · exact absurd c_97 (by decide)
              · skip
                refine lv_aload_n X.1 X.2.1 dX12_clause_133 rfl (lv_at hl 2 rfl) ?_
                have ho268 := ho.1
                have ho := ho.2
                refine r_ev I (r_runV X I pk_X12_condition (c12_conditionR l G _ _ ho268) lm_X12_174 (by decide) (cl_12 rfl) rfl rfl rfl hl.1 rfl (Nat.le_of_ble_eq_true rfl) dX12_clause_134 ⟨Nat.le_of_ble_eq_true rfl, Nat.le_of_ble_eq_true rfl⟩ ⟨Nat.le_refl 0, Nat.le_refl 0⟩) (fun H locs I => ?_)
                refine lv_goto (tgt := 184) X.1 X.2.1 dX12_clause_137 (by decide) ?_
                refine lv_aload_n X.1 X.2.1 dX12_clause_184 rfl (lv_at hl 2 rfl) ?_
                refine g12_11 X I (k := 123) (by decide) rfl lf_X12_28 dX12_clause_185 ?_
                refine lv_iload_n X.1 X.2.1 dX12_clause_188 rfl (lv_at hl 1 rfl) ?_
                refine lv_aload_n X.1 X.2.1 dX12_clause_189 rfl (lv_at hl 2 rfl) ?_
                refine g12_10 X I (k := 123) (by decide) rfl lf_X12_25 dX12_clause_190 ?_
                refine lv_iload_n X.1 X.2.1 dX12_clause_193 rfl (lv_at hl 1 rfl) ?_
                have ho269 := ho.1
                have ho := ho.2
                refine r_ald X I (k := 129) (n := 700) (by decide) rfl ho269 dX12_clause_194 ?_
                have ho270 := ho.1
                have ho := ho.2
                refine r_ast X I (k := 130) (n := 700) (by decide) rfl ho270 dX12_clause_195 (fun H locs I => ?_)
                refine lv_iload_n X.1 X.2.1 dX12_clause_196 rfl (lv_at hl 0 rfl) ?_
                refine lv_if_eq (tgt := 251) X.1 X.2.1 dX12_clause_197 (by decide) (fun c_98 => ?_) (fun c_98 => ?_)
                · exact absurd c_98 (by decide)
                · skip
                  refine lv_aload_n X.1 X.2.1 dX12_clause_200 rfl (lv_at hl 2 rfl) ?_
                  refine g12_4 X I (k := 123) (by decide) rfl lf_X12_122 dX12_clause_201 ?_
                  refine lv_iconst (v := (-1)) X.1 X.2.1 dX12_clause_204 (by decide) ?_
                  refine lv_icmp_ne (tgt := 251) X.1 X.2.1 dX12_clause_205 (by decide) (fun c_99 => ?_) (fun c_99 => ?_)
                  · skip
                    have hE := ite_f hE c_99
                    have ho := ite_fP ho c_99
                    refine lv_aload_n X.1 X.2.1 dX12_clause_251 rfl (lv_at hl 2 rfl) ?_
                    refine g12_12 X I (k := 123) (by decide) rfl lf_X12_31 dX12_clause_252 ?_
                    refine lv_iload_n X.1 X.2.1 dX12_clause_255 rfl (lv_at hl 1 rfl) ?_
                    refine lv_aload_n X.1 X.2.1 dX12_clause_256 rfl (lv_at hl 2 rfl) ?_
                    refine g12_8 X I (k := 123) (by decide) rfl lf_X12_19 dX12_clause_257 ?_
                    refine lv_aload_n X.1 X.2.1 dX12_clause_260 rfl (lv_at hl 2 rfl) ?_
                    refine g12_14 X I (k := 123) (by decide) rfl lf_X12_125 dX12_clause_261 ?_
                    have ho271 := ho.1
                    have ho := ho.2
                    refine r_ald X I (k := 127) (n := 5) (by decide) rfl ho271 dX12_clause_264 ?_
                    have ho272 := ho.1
                    have ho := ho.2
                    refine r_ast X I (k := 131) (n := 700) (by decide) rfl ho272 dX12_clause_265 (fun H locs I => ?_)
                    refine lv_aload_n X.1 X.2.1 dX12_clause_266 rfl (lv_at hl 2 rfl) ?_
                    refine g12_9 X I (k := 123) (by decide) rfl lf_X12_22 dX12_clause_267 ?_
                    refine lv_aload_n X.1 X.2.1 dX12_clause_270 rfl (lv_at hl 2 rfl) ?_
                    refine g12_14 X I (k := 123) (by decide) rfl lf_X12_125 dX12_clause_271 ?_
                    refine lv_dup2_11 X.1 X.2.1 dX12_clause_274 rfl rfl ?_
                    have ho273 := ho.1
                    have ho := ho.2
                    refine r_ald X I (k := 128) (n := 5) (by decide) rfl ho273 dX12_clause_275 ?_
                    refine lv_iconst (v := 1) X.1 X.2.1 dX12_clause_276 (by decide) ?_
                    refine lv_iadd X.1 X.2.1 dX12_clause_277 ?_
                    have ho274 := ho.1
                    have ho := ho.2
                    refine r_ast X I (k := 128) (n := 5) (by decide) rfl ho274 dX12_clause_278 (fun H locs I => ?_)
                    have h9 := hE
                    exact r_vret X I (e_v h9.symm rfl) dX12_clause_279
                  · skip
                    have hE := ite_t hE c_99
                    have ho := ite_tP ho c_99
                    refine lv_aload_n X.1 X.2.1 dX12_clause_208 rfl (lv_at hl 2 rfl) ?_
                    have ho275 := ho.1
                    have ho := ho.2
                    refine r_ei I (r_runV X I pk_X12_look (c12_look l G _ _ ho275) lm_X12_134 (by decide) (cl_12 rfl) rfl rfl rfl hl.1 rfl (Nat.le_of_ble_eq_true rfl) dX12_clause_209 ⟨Nat.le_of_ble_eq_true rfl, Nat.le_of_ble_eq_true rfl⟩ ⟨Nat.le_refl 0, Nat.le_refl 0⟩) (fun H locs I => ?_)
                    refine lv_bipush (v := 63) X.1 X.2.1 dX12_clause_212 (by decide) ?_
                    refine lv_icmp_eq (tgt := 222) X.1 X.2.1 dX12_clause_214 (by decide) (fun c_100 => ?_) (fun c_100 => ?_)
                    · skip
                      have hE := ite_t hE c_100
                      have ho := ite_tP ho c_100
                      refine lv_aload_n X.1 X.2.1 dX12_clause_222 rfl (lv_at hl 2 rfl) ?_
                      refine lv_dup X.1 X.2.1 dX12_clause_223 rfl ?_
                      refine g12_3 X I (k := 123) (by decide) rfl lf_X12_115 dX12_clause_224 ?_
                      refine lv_iconst (v := 1) X.1 X.2.1 dX12_clause_227 (by decide) ?_
                      refine lv_iadd X.1 X.2.1 dX12_clause_228 ?_
                      refine p12_3 X I (k := 123) (by decide) rfl lf_X12_115 dX12_clause_229 (fun H locs I => ?_)
                      refine lv_aload_n X.1 X.2.1 dX12_clause_232 rfl (lv_at hl 2 rfl) ?_
                      refine g12_11 X I (k := 123) (by decide) rfl lf_X12_28 dX12_clause_233 ?_
                      refine lv_iload_n X.1 X.2.1 dX12_clause_236 rfl (lv_at hl 1 rfl) ?_
                      refine lv_aload_n X.1 X.2.1 dX12_clause_237 rfl (lv_at hl 2 rfl) ?_
                      refine g12_8 X I (k := 123) (by decide) rfl lf_X12_19 dX12_clause_238 ?_
                      refine lv_aload_n X.1 X.2.1 dX12_clause_241 rfl (lv_at hl 2 rfl) ?_
                      refine g12_14 X I (k := 123) (by decide) rfl lf_X12_125 dX12_clause_242 ?_
                      have ho276 := ho.1
                      have ho := ho.2
                      refine r_ald X I (k := 127) (n := 5) (by decide) rfl ho276 dX12_clause_245 ?_
                      have ho277 := ho.1
                      have ho := ho.2
                      refine r_ast X I (k := 130) (n := 700) (by decide) rfl ho277 dX12_clause_246 (fun H locs I => ?_)
                      refine lv_aload_n X.1 X.2.1 dX12_clause_247 rfl (lv_at hl 2 rfl) ?_
                      have ho278 := ho.1
                      have ho := ho.2
                      refine r_ev I (r_runV X I pk_X12_sum (c12_sumR l G _ _ ho278) lm_X12_155 (by decide) (cl_12 rfl) rfl rfl rfl hl.1 rfl (Nat.le_of_ble_eq_true rfl) dX12_clause_248 ⟨Nat.le_of_ble_eq_true rfl, Nat.le_of_ble_eq_true rfl⟩ ⟨Nat.le_refl 0, Nat.le_refl 0⟩) (fun H locs I => ?_)
                      refine lv_aload_n X.1 X.2.1 dX12_clause_251 rfl (lv_at hl 2 rfl) ?_
                      refine g12_12 X I (k := 123) (by decide) rfl lf_X12_31 dX12_clause_252 ?_
                      refine lv_iload_n X.1 X.2.1 dX12_clause_255 rfl (lv_at hl 1 rfl) ?_
                      refine lv_aload_n X.1 X.2.1 dX12_clause_256 rfl (lv_at hl 2 rfl) ?_
                      refine g12_8 X I (k := 123) (by decide) rfl lf_X12_19 dX12_clause_257 ?_
                      refine lv_aload_n X.1 X.2.1 dX12_clause_260 rfl (lv_at hl 2 rfl) ?_
                      refine g12_14 X I (k := 123) (by decide) rfl lf_X12_125 dX12_clause_261 ?_
                      have ho279 := ho.1
                      have ho := ho.2
                      refine r_ald X I (k := 127) (n := 5) (by decide) rfl ho279 dX12_clause_264 ?_
                      have ho280 := ho.1
                      have ho := ho.2
                      refine r_ast X I (k := 131) (n := 700) (by decide) rfl ho280 dX12_clause_265 (fun H locs I => ?_)
                      refine lv_aload_n X.1 X.2.1 dX12_clause_266 rfl (lv_at hl 2 rfl) ?_
                      refine g12_9 X I (k := 123) (by decide) rfl lf_X12_22 dX12_clause_267 ?_
                      refine lv_aload_n X.1 X.2.1 dX12_clause_270 rfl (lv_at hl 2 rfl) ?_
                      refine g12_14 X I (k := 123) (by decide) rfl lf_X12_125 dX12_clause_271 ?_
                      refine lv_dup2_11 X.1 X.2.1 dX12_clause_274 rfl rfl ?_
                      have ho281 := ho.1
                      have ho := ho.2
                      refine r_ald X I (k := 128) (n := 5) (by decide) rfl ho281 dX12_clause_275 ?_
                      refine lv_iconst (v := 1) X.1 X.2.1 dX12_clause_276 (by decide) ?_
                      refine lv_iadd X.1 X.2.1 dX12_clause_277 ?_
                      have ho282 := ho.1
                      have ho := ho.2
                      refine r_ast X I (k := 128) (n := 5) (by decide) rfl ho282 dX12_clause_278 (fun H locs I => ?_)
                      have h9 := hE
                      exact r_vret X I (e_v h9.symm rfl) dX12_clause_279
                    · skip
                      have hE := ite_f hE c_100
                      have ho := ite_fP ho c_100
                      refine lv_aload_n X.1 X.2.1 dX12_clause_217 rfl (lv_at hl 2 rfl) ?_
                      refine r_ev I (r_runV X I pk_X12_bad (c12_bad l G _ _) lm_X12_131 (by decide) (cl_12 rfl) rfl rfl rfl hl.1 rfl (Nat.le_of_ble_eq_true rfl) dX12_clause_218 ⟨Nat.le_of_ble_eq_true rfl, Nat.le_of_ble_eq_true rfl⟩ ⟨Nat.le_refl 0, Nat.le_refl 0⟩) (fun H locs I => ?_)
                      have h9 := hE
                      exact r_vret X I (e_v h9.symm rfl) dX12_clause_221
            · skip
              have hE := ite_f hE c_96
              have ho := ite_fP ho c_96
              refine lv_aload_n X.1 X.2.1 dX12_clause_114 rfl (lv_at hl 1 rfl) ?_
              have ho283 := ho.1
              have ho := ho.2
              refine r_ei I (r_runV X I pk_X12_look (c12_look l G _ _ ho283) lm_X12_134 (by decide) (cl_12 rfl) rfl rfl rfl hl.1 rfl (Nat.le_of_ble_eq_true rfl) dX12_clause_115 ⟨Nat.le_of_ble_eq_true rfl, Nat.le_of_ble_eq_true rfl⟩ ⟨Nat.le_refl 0, Nat.le_refl 0⟩) (fun H locs I => ?_)
              refine lv_bipush (v := 40) X.1 X.2.1 dX12_clause_118 (by decide) ?_
              refine lv_icmp_ne (tgt := 127) X.1 X.2.1 dX12_clause_120 (by decide) (fun c_101 => ?_) (fun c_101 => ?_)
              · skip
                have hE := ite_f hE c_101
                have ho := ite_fP ho c_101
                refine lv_iconst (v := 0) X.1 X.2.1 dX12_clause_127 (by decide) ?_
                refine lv_istore_n (lv' := [(2, .int _), (1, .int _), (0, .ref _)]) X.1 X.2.1 dX12_clause_128 rfl hl (by decide) rfl (fun ls hl => ?_)
                refine lv_iload_n X.1 X.2.1 dX12_clause_129 rfl (lv_at hl 0 rfl) ?_
                refine lv_if_eq (tgt := 140) X.1 X.2.1 dX12_clause_130 (by decide) (fun c_102 => ?_) (fun c_102 => ?_)
                · skip
                  refine lv_aload_n X.1 X.2.1 dX12_clause_140 rfl (lv_at hl 2 rfl) ?_
                  have ho284 := ho.1
                  have ho := ho.2
                  refine r_ev I (r_runV X I pk_X12_sum (c12_sumR l G _ _ ho284) lm_X12_155 (by decide) (cl_12 rfl) rfl rfl rfl hl.1 rfl (Nat.le_of_ble_eq_true rfl) dX12_clause_141 ⟨Nat.le_of_ble_eq_true rfl, Nat.le_of_ble_eq_true rfl⟩ ⟨Nat.le_refl 0, Nat.le_refl 0⟩) (fun H locs I => ?_)
                  refine lv_aload_n X.1 X.2.1 dX12_clause_144 rfl (lv_at hl 2 rfl) ?_
                  refine g12_4 X I (k := 123) (by decide) rfl lf_X12_122 dX12_clause_145 ?_
                  refine lv_iconst (v := (-1)) X.1 X.2.1 dX12_clause_148 (by decide) ?_
                  refine lv_icmp_ne (tgt := 166) X.1 X.2.1 dX12_clause_149 (by decide) (fun c_103 => ?_) (fun c_103 => ?_)
                  · skip
                    have hE := ite_f hE c_103
                    have ho := ite_fP ho c_103
                    refine lv_iconst (v := 0) X.1 X.2.1 dX12_clause_166 (by decide) ?_
                    refine lv_istore_n (lv' := [(2, .int _), (1, .int _), (0, .ref _)]) X.1 X.2.1 dX12_clause_167 rfl hl (by decide) rfl (fun ls hl => ?_)
                    refine lv_iload_n X.1 X.2.1 dX12_clause_168 rfl (lv_at hl 0 rfl) ?_
                    refine lv_if_eq (tgt := 184) X.1 X.2.1 dX12_clause_169 (by decide) (fun c_104 => ?_) (fun c_104 => ?_)
                    · skip
                      refine lv_aload_n X.1 X.2.1 dX12_clause_184 rfl (lv_at hl 2 rfl) ?_
                      refine g12_11 X I (k := 123) (by decide) rfl lf_X12_28 dX12_clause_185 ?_
                      refine lv_iload_n X.1 X.2.1 dX12_clause_188 rfl (lv_at hl 1 rfl) ?_
                      refine lv_aload_n X.1 X.2.1 dX12_clause_189 rfl (lv_at hl 2 rfl) ?_
                      refine g12_10 X I (k := 123) (by decide) rfl lf_X12_25 dX12_clause_190 ?_
                      refine lv_iload_n X.1 X.2.1 dX12_clause_193 rfl (lv_at hl 1 rfl) ?_
                      have ho285 := ho.1
                      have ho := ho.2
                      refine r_ald X I (k := 129) (n := 700) (by decide) rfl ho285 dX12_clause_194 ?_
                      have ho286 := ho.1
                      have ho := ho.2
                      refine r_ast X I (k := 130) (n := 700) (by decide) rfl ho286 dX12_clause_195 (fun H locs I => ?_)
                      refine lv_iload_n X.1 X.2.1 dX12_clause_196 rfl (lv_at hl 0 rfl) ?_
                      refine lv_if_eq (tgt := 251) X.1 X.2.1 dX12_clause_197 (by decide) (fun c_105 => ?_) (fun c_105 => ?_)
                      · skip
                        refine lv_aload_n X.1 X.2.1 dX12_clause_251 rfl (lv_at hl 2 rfl) ?_
                        refine g12_12 X I (k := 123) (by decide) rfl lf_X12_31 dX12_clause_252 ?_
                        refine lv_iload_n X.1 X.2.1 dX12_clause_255 rfl (lv_at hl 1 rfl) ?_
                        refine lv_aload_n X.1 X.2.1 dX12_clause_256 rfl (lv_at hl 2 rfl) ?_
                        refine g12_8 X I (k := 123) (by decide) rfl lf_X12_19 dX12_clause_257 ?_
                        refine lv_aload_n X.1 X.2.1 dX12_clause_260 rfl (lv_at hl 2 rfl) ?_
                        refine g12_14 X I (k := 123) (by decide) rfl lf_X12_125 dX12_clause_261 ?_
                        have ho287 := ho.1
                        have ho := ho.2
                        refine r_ald X I (k := 127) (n := 5) (by decide) rfl ho287 dX12_clause_264 ?_
                        have ho288 := ho.1
                        have ho := ho.2
                        refine r_ast X I (k := 131) (n := 700) (by decide) rfl ho288 dX12_clause_265 (fun H locs I => ?_)
                        refine lv_aload_n X.1 X.2.1 dX12_clause_266 rfl (lv_at hl 2 rfl) ?_
                        refine g12_9 X I (k := 123) (by decide) rfl lf_X12_22 dX12_clause_267 ?_
                        refine lv_aload_n X.1 X.2.1 dX12_clause_270 rfl (lv_at hl 2 rfl) ?_
                        refine g12_14 X I (k := 123) (by decide) rfl lf_X12_125 dX12_clause_271 ?_
                        refine lv_dup2_11 X.1 X.2.1 dX12_clause_274 rfl rfl ?_
                        have ho289 := ho.1
                        have ho := ho.2
                        refine r_ald X I (k := 128) (n := 5) (by decide) rfl ho289 dX12_clause_275 ?_
                        refine lv_iconst (v := 1) X.1 X.2.1 dX12_clause_276 (by decide) ?_
                        refine lv_iadd X.1 X.2.1 dX12_clause_277 ?_
                        have ho290 := ho.1
                        have ho := ho.2
                        refine r_ast X I (k := 128) (n := 5) (by decide) rfl ho290 dX12_clause_278 (fun H locs I => ?_)
                        have h9 := hE
                        exact r_vret X I (e_v h9.symm rfl) dX12_clause_279
                      · exact absurd c_105 (by decide)
                    · exact absurd c_104 (by decide)
                  · skip
                    have hE := ite_t hE c_103
                    have ho := ite_tP ho c_103
                    refine lv_aload_n X.1 X.2.1 dX12_clause_152 rfl (lv_at hl 2 rfl) ?_
                    have ho291 := ho.1
                    have ho := ho.2
                    refine r_ei I (r_runV X I pk_X12_look (c12_look l G _ _ ho291) lm_X12_134 (by decide) (cl_12 rfl) rfl rfl rfl hl.1 rfl (Nat.le_of_ble_eq_true rfl) dX12_clause_153 ⟨Nat.le_of_ble_eq_true rfl, Nat.le_of_ble_eq_true rfl⟩ ⟨Nat.le_refl 0, Nat.le_refl 0⟩) (fun H locs I => ?_)
                    refine r_ei I (r_runS X I pk_X12_isSign (c12_isSign l G _ _ _) lm_X12_168 rfl hl.1 rfl (Nat.le_of_ble_eq_true rfl) dX12_clause_156 ⟨Nat.le_of_ble_eq_true rfl, Nat.le_of_ble_eq_true rfl⟩ ⟨Nat.le_refl 0, Nat.le_refl 0⟩) (fun H locs I => ?_)
                    refine lv_if_eq (tgt := 166) X.1 X.2.1 dX12_clause_159 (by decide) (fun c_106 => ?_) (fun c_106 => ?_)
                    · skip
                      have hE := ite_f hE (b2i_n c_106)
                      have ho := ite_fP ho (b2i_n c_106)
                      refine lv_iconst (v := 0) X.1 X.2.1 dX12_clause_166 (by decide) ?_
                      refine lv_istore_n (lv' := [(2, .int _), (1, .int _), (0, .ref _)]) X.1 X.2.1 dX12_clause_167 rfl hl (by decide) rfl (fun ls hl => ?_)
                      refine lv_iload_n X.1 X.2.1 dX12_clause_168 rfl (lv_at hl 0 rfl) ?_
                      refine lv_if_eq (tgt := 184) X.1 X.2.1 dX12_clause_169 (by decide) (fun c_107 => ?_) (fun c_107 => ?_)
                      · skip
                        refine lv_aload_n X.1 X.2.1 dX12_clause_184 rfl (lv_at hl 2 rfl) ?_
                        refine g12_11 X I (k := 123) (by decide) rfl lf_X12_28 dX12_clause_185 ?_
                        refine lv_iload_n X.1 X.2.1 dX12_clause_188 rfl (lv_at hl 1 rfl) ?_
                        refine lv_aload_n X.1 X.2.1 dX12_clause_189 rfl (lv_at hl 2 rfl) ?_
                        refine g12_10 X I (k := 123) (by decide) rfl lf_X12_25 dX12_clause_190 ?_
                        refine lv_iload_n X.1 X.2.1 dX12_clause_193 rfl (lv_at hl 1 rfl) ?_
                        have ho292 := ho.1
                        have ho := ho.2
                        refine r_ald X I (k := 129) (n := 700) (by decide) rfl ho292 dX12_clause_194 ?_
                        have ho293 := ho.1
                        have ho := ho.2
                        refine r_ast X I (k := 130) (n := 700) (by decide) rfl ho293 dX12_clause_195 (fun H locs I => ?_)
                        refine lv_iload_n X.1 X.2.1 dX12_clause_196 rfl (lv_at hl 0 rfl) ?_
                        refine lv_if_eq (tgt := 251) X.1 X.2.1 dX12_clause_197 (by decide) (fun c_108 => ?_) (fun c_108 => ?_)
                        · skip
                          refine lv_aload_n X.1 X.2.1 dX12_clause_251 rfl (lv_at hl 2 rfl) ?_
                          refine g12_12 X I (k := 123) (by decide) rfl lf_X12_31 dX12_clause_252 ?_
                          refine lv_iload_n X.1 X.2.1 dX12_clause_255 rfl (lv_at hl 1 rfl) ?_
                          refine lv_aload_n X.1 X.2.1 dX12_clause_256 rfl (lv_at hl 2 rfl) ?_
                          refine g12_8 X I (k := 123) (by decide) rfl lf_X12_19 dX12_clause_257 ?_
                          refine lv_aload_n X.1 X.2.1 dX12_clause_260 rfl (lv_at hl 2 rfl) ?_
                          refine g12_14 X I (k := 123) (by decide) rfl lf_X12_125 dX12_clause_261 ?_
                          have ho294 := ho.1
                          have ho := ho.2
                          refine r_ald X I (k := 127) (n := 5) (by decide) rfl ho294 dX12_clause_264 ?_
                          have ho295 := ho.1
                          have ho := ho.2
                          refine r_ast X I (k := 131) (n := 700) (by decide) rfl ho295 dX12_clause_265 (fun H locs I => ?_)
                          refine lv_aload_n X.1 X.2.1 dX12_clause_266 rfl (lv_at hl 2 rfl) ?_
                          refine g12_9 X I (k := 123) (by decide) rfl lf_X12_22 dX12_clause_267 ?_
                          refine lv_aload_n X.1 X.2.1 dX12_clause_270 rfl (lv_at hl 2 rfl) ?_
                          refine g12_14 X I (k := 123) (by decide) rfl lf_X12_125 dX12_clause_271 ?_
                          refine lv_dup2_11 X.1 X.2.1 dX12_clause_274 rfl rfl ?_
                          have ho296 := ho.1
                          have ho := ho.2
                          refine r_ald X I (k := 128) (n := 5) (by decide) rfl ho296 dX12_clause_275 ?_
                          refine lv_iconst (v := 1) X.1 X.2.1 dX12_clause_276 (by decide) ?_
                          refine lv_iadd X.1 X.2.1 dX12_clause_277 ?_
                          have ho297 := ho.1
                          have ho := ho.2
                          refine r_ast X I (k := 128) (n := 5) (by decide) rfl ho297 dX12_clause_278 (fun H locs I => ?_)
                          have h9 := hE
                          exact r_vret X I (e_v h9.symm rfl) dX12_clause_279
                        · exact absurd c_108 (by decide)
                      · exact absurd c_107 (by decide)
                    · skip
                      have hE := ite_t hE (b2i_y c_106)
                      have ho := ite_tP ho (b2i_y c_106)
                      refine lv_iconst (v := 1) X.1 X.2.1 dX12_clause_162 (by decide) ?_
                      refine lv_goto (tgt := 167) X.1 X.2.1 dX12_clause_163 (by decide) ?_
                      refine lv_istore_n (lv' := [(2, .int _), (1, .int _), (0, .ref _)]) X.1 X.2.1 dX12_clause_167 rfl hl (by decide) rfl (fun ls hl => ?_)
                      refine lv_iload_n X.1 X.2.1 dX12_clause_168 rfl (lv_at hl 0 rfl) ?_
                      refine lv_if_eq (tgt := 184) X.1 X.2.1 dX12_clause_169 (by decide) (fun c_109 => ?_) (fun c_109 => ?_)
                      · exact absurd c_109 (by decide)
                      · skip
                        refine lv_aload_n X.1 X.2.1 dX12_clause_172 rfl (lv_at hl 2 rfl) ?_
                        have ho298 := ho.1
                        have ho := ho.2
                        refine r_ev I (r_runV X I pk_X12_compare (c12_compare l G _ _ ho298) lm_X12_177 (by decide) (cl_12 rfl) rfl rfl rfl hl.1 rfl (Nat.le_of_ble_eq_true rfl) dX12_clause_173 ⟨Nat.le_of_ble_eq_true rfl, Nat.le_of_ble_eq_true rfl⟩ ⟨Nat.le_refl 0, Nat.le_refl 0⟩) (fun H locs I => ?_)
                        refine lv_aload_n X.1 X.2.1 dX12_clause_176 rfl (lv_at hl 2 rfl) ?_
                        have ho299 := ho.1
                        have ho := ho.2
                        refine r_ev I (r_runV X I pk_X12_goOnAnd (c12_goOnAndR l G _ _ ho299) lm_X12_180 (by decide) (cl_12 rfl) rfl rfl rfl hl.1 rfl (Nat.le_of_ble_eq_true rfl) dX12_clause_177 ⟨Nat.le_of_ble_eq_true rfl, Nat.le_of_ble_eq_true rfl⟩ ⟨Nat.le_refl 0, Nat.le_refl 0⟩) (fun H locs I => ?_)
                        refine lv_aload_n X.1 X.2.1 dX12_clause_180 rfl (lv_at hl 2 rfl) ?_
                        have ho300 := ho.1
                        have ho := ho.2
                        refine r_ev I (r_runV X I pk_X12_goOnOr (c12_goOnOrR l G _ _ ho300) lm_X12_183 (by decide) (cl_12 rfl) rfl rfl rfl hl.1 rfl (Nat.le_of_ble_eq_true rfl) dX12_clause_181 ⟨Nat.le_of_ble_eq_true rfl, Nat.le_of_ble_eq_true rfl⟩ ⟨Nat.le_refl 0, Nat.le_refl 0⟩) (fun H locs I => ?_)
                        refine lv_aload_n X.1 X.2.1 dX12_clause_184 rfl (lv_at hl 2 rfl) ?_
                        refine g12_11 X I (k := 123) (by decide) rfl lf_X12_28 dX12_clause_185 ?_
                        refine lv_iload_n X.1 X.2.1 dX12_clause_188 rfl (lv_at hl 1 rfl) ?_
                        refine lv_aload_n X.1 X.2.1 dX12_clause_189 rfl (lv_at hl 2 rfl) ?_
                        refine g12_10 X I (k := 123) (by decide) rfl lf_X12_25 dX12_clause_190 ?_
                        refine lv_iload_n X.1 X.2.1 dX12_clause_193 rfl (lv_at hl 1 rfl) ?_
                        have ho301 := ho.1
                        have ho := ho.2
                        refine r_ald X I (k := 129) (n := 700) (by decide) rfl ho301 dX12_clause_194 ?_
                        have ho302 := ho.1
                        have ho := ho.2
                        refine r_ast X I (k := 130) (n := 700) (by decide) rfl ho302 dX12_clause_195 (fun H locs I => ?_)
                        refine lv_iload_n X.1 X.2.1 dX12_clause_196 rfl (lv_at hl 0 rfl) ?_
                        refine lv_if_eq (tgt := 251) X.1 X.2.1 dX12_clause_197 (by decide) (fun c_110 => ?_) (fun c_110 => ?_)
                        · exact absurd c_110 (by decide)
                        · skip
                          refine lv_aload_n X.1 X.2.1 dX12_clause_200 rfl (lv_at hl 2 rfl) ?_
                          refine g12_4 X I (k := 123) (by decide) rfl lf_X12_122 dX12_clause_201 ?_
                          refine lv_iconst (v := (-1)) X.1 X.2.1 dX12_clause_204 (by decide) ?_
                          refine lv_icmp_ne (tgt := 251) X.1 X.2.1 dX12_clause_205 (by decide) (fun c_111 => ?_) (fun c_111 => ?_)
                          · skip
                            have hE := ite_f hE c_111
                            have ho := ite_fP ho c_111
                            refine lv_aload_n X.1 X.2.1 dX12_clause_251 rfl (lv_at hl 2 rfl) ?_
                            refine g12_12 X I (k := 123) (by decide) rfl lf_X12_31 dX12_clause_252 ?_
                            refine lv_iload_n X.1 X.2.1 dX12_clause_255 rfl (lv_at hl 1 rfl) ?_
                            refine lv_aload_n X.1 X.2.1 dX12_clause_256 rfl (lv_at hl 2 rfl) ?_
                            refine g12_8 X I (k := 123) (by decide) rfl lf_X12_19 dX12_clause_257 ?_
                            refine lv_aload_n X.1 X.2.1 dX12_clause_260 rfl (lv_at hl 2 rfl) ?_
                            refine g12_14 X I (k := 123) (by decide) rfl lf_X12_125 dX12_clause_261 ?_
                            have ho303 := ho.1
                            have ho := ho.2
                            refine r_ald X I (k := 127) (n := 5) (by decide) rfl ho303 dX12_clause_264 ?_
                            have ho304 := ho.1
                            have ho := ho.2
                            refine r_ast X I (k := 131) (n := 700) (by decide) rfl ho304 dX12_clause_265 (fun H locs I => ?_)
                            refine lv_aload_n X.1 X.2.1 dX12_clause_266 rfl (lv_at hl 2 rfl) ?_
                            refine g12_9 X I (k := 123) (by decide) rfl lf_X12_22 dX12_clause_267 ?_
                            refine lv_aload_n X.1 X.2.1 dX12_clause_270 rfl (lv_at hl 2 rfl) ?_
                            refine g12_14 X I (k := 123) (by decide) rfl lf_X12_125 dX12_clause_271 ?_
                            refine lv_dup2_11 X.1 X.2.1 dX12_clause_274 rfl rfl ?_
                            have ho305 := ho.1
                            have ho := ho.2
                            refine r_ald X I (k := 128) (n := 5) (by decide) rfl ho305 dX12_clause_275 ?_
                            refine lv_iconst (v := 1) X.1 X.2.1 dX12_clause_276 (by decide) ?_
                            refine lv_iadd X.1 X.2.1 dX12_clause_277 ?_
                            have ho306 := ho.1
                            have ho := ho.2
                            refine r_ast X I (k := 128) (n := 5) (by decide) rfl ho306 dX12_clause_278 (fun H locs I => ?_)
                            have h9 := hE
                            exact r_vret X I (e_v h9.symm rfl) dX12_clause_279
                          · skip
                            have hE := ite_t hE c_111
                            have ho := ite_tP ho c_111
                            refine lv_aload_n X.1 X.2.1 dX12_clause_208 rfl (lv_at hl 2 rfl) ?_
                            have ho307 := ho.1
                            have ho := ho.2
                            refine r_ei I (r_runV X I pk_X12_look (c12_look l G _ _ ho307) lm_X12_134 (by decide) (cl_12 rfl) rfl rfl rfl hl.1 rfl (Nat.le_of_ble_eq_true rfl) dX12_clause_209 ⟨Nat.le_of_ble_eq_true rfl, Nat.le_of_ble_eq_true rfl⟩ ⟨Nat.le_refl 0, Nat.le_refl 0⟩) (fun H locs I => ?_)
                            refine lv_bipush (v := 63) X.1 X.2.1 dX12_clause_212 (by decide) ?_
                            refine lv_icmp_eq (tgt := 222) X.1 X.2.1 dX12_clause_214 (by decide) (fun c_112 => ?_) (fun c_112 => ?_)
                            · skip
                              have hE := ite_t hE c_112
                              have ho := ite_tP ho c_112
                              refine lv_aload_n X.1 X.2.1 dX12_clause_222 rfl (lv_at hl 2 rfl) ?_
                              refine lv_dup X.1 X.2.1 dX12_clause_223 rfl ?_
                              refine g12_3 X I (k := 123) (by decide) rfl lf_X12_115 dX12_clause_224 ?_
                              refine lv_iconst (v := 1) X.1 X.2.1 dX12_clause_227 (by decide) ?_
                              refine lv_iadd X.1 X.2.1 dX12_clause_228 ?_
                              refine p12_3 X I (k := 123) (by decide) rfl lf_X12_115 dX12_clause_229 (fun H locs I => ?_)
                              refine lv_aload_n X.1 X.2.1 dX12_clause_232 rfl (lv_at hl 2 rfl) ?_
                              refine g12_11 X I (k := 123) (by decide) rfl lf_X12_28 dX12_clause_233 ?_
                              refine lv_iload_n X.1 X.2.1 dX12_clause_236 rfl (lv_at hl 1 rfl) ?_
                              refine lv_aload_n X.1 X.2.1 dX12_clause_237 rfl (lv_at hl 2 rfl) ?_
                              refine g12_8 X I (k := 123) (by decide) rfl lf_X12_19 dX12_clause_238 ?_
                              refine lv_aload_n X.1 X.2.1 dX12_clause_241 rfl (lv_at hl 2 rfl) ?_
                              refine g12_14 X I (k := 123) (by decide) rfl lf_X12_125 dX12_clause_242 ?_
                              have ho308 := ho.1
                              have ho := ho.2
                              refine r_ald X I (k := 127) (n := 5) (by decide) rfl ho308 dX12_clause_245 ?_
                              have ho309 := ho.1
                              have ho := ho.2
                              refine r_ast X I (k := 130) (n := 700) (by decide) rfl ho309 dX12_clause_246 (fun H locs I => ?_)
                              refine lv_aload_n X.1 X.2.1 dX12_clause_247 rfl (lv_at hl 2 rfl) ?_
                              have ho310 := ho.1
                              have ho := ho.2
                              refine r_ev I (r_runV X I pk_X12_sum (c12_sumR l G _ _ ho310) lm_X12_155 (by decide) (cl_12 rfl) rfl rfl rfl hl.1 rfl (Nat.le_of_ble_eq_true rfl) dX12_clause_248 ⟨Nat.le_of_ble_eq_true rfl, Nat.le_of_ble_eq_true rfl⟩ ⟨Nat.le_refl 0, Nat.le_refl 0⟩) (fun H locs I => ?_)
                              refine lv_aload_n X.1 X.2.1 dX12_clause_251 rfl (lv_at hl 2 rfl) ?_
                              refine g12_12 X I (k := 123) (by decide) rfl lf_X12_31 dX12_clause_252 ?_
                              refine lv_iload_n X.1 X.2.1 dX12_clause_255 rfl (lv_at hl 1 rfl) ?_
                              refine lv_aload_n X.1 X.2.1 dX12_clause_256 rfl (lv_at hl 2 rfl) ?_
                              refine g12_8 X I (k := 123) (by decide) rfl lf_X12_19 dX12_clause_257 ?_
                              refine lv_aload_n X.1 X.2.1 dX12_clause_260 rfl (lv_at hl 2 rfl) ?_
                              refine g12_14 X I (k := 123) (by decide) rfl lf_X12_125 dX12_clause_261 ?_
                              have ho311 := ho.1
                              have ho := ho.2
                              refine r_ald X I (k := 127) (n := 5) (by decide) rfl ho311 dX12_clause_264 ?_
                              have ho312 := ho.1
                              have ho := ho.2
                              refine r_ast X I (k := 131) (n := 700) (by decide) rfl ho312 dX12_clause_265 (fun H locs I => ?_)
                              refine lv_aload_n X.1 X.2.1 dX12_clause_266 rfl (lv_at hl 2 rfl) ?_
                              refine g12_9 X I (k := 123) (by decide) rfl lf_X12_22 dX12_clause_267 ?_
                              refine lv_aload_n X.1 X.2.1 dX12_clause_270 rfl (lv_at hl 2 rfl) ?_
                              refine g12_14 X I (k := 123) (by decide) rfl lf_X12_125 dX12_clause_271 ?_
                              refine lv_dup2_11 X.1 X.2.1 dX12_clause_274 rfl rfl ?_
                              have ho313 := ho.1
                              have ho := ho.2
                              refine r_ald X I (k := 128) (n := 5) (by decide) rfl ho313 dX12_clause_275 ?_
                              refine lv_iconst (v := 1) X.1 X.2.1 dX12_clause_276 (by decide) ?_
                              refine lv_iadd X.1 X.2.1 dX12_clause_277 ?_
                              have ho314 := ho.1
                              have ho := ho.2
                              refine r_ast X I (k := 128) (n := 5) (by decide) rfl ho314 dX12_clause_278 (fun H locs I => ?_)
                              have h9 := hE
                              exact r_vret X I (e_v h9.symm rfl) dX12_clause_279
                            · skip
                              have hE := ite_f hE c_112
                              have ho := ite_fP ho c_112
                              refine lv_aload_n X.1 X.2.1 dX12_clause_217 rfl (lv_at hl 2 rfl) ?_
                              refine r_ev I (r_runV X I pk_X12_bad (c12_bad l G _ _) lm_X12_131 (by decide) (cl_12 rfl) rfl rfl rfl hl.1 rfl (Nat.le_of_ble_eq_true rfl) dX12_clause_218 ⟨Nat.le_of_ble_eq_true rfl, Nat.le_of_ble_eq_true rfl⟩ ⟨Nat.le_refl 0, Nat.le_refl 0⟩) (fun H locs I => ?_)
                              have h9 := hE
                              exact r_vret X I (e_v h9.symm rfl) dX12_clause_221
                · exact absurd c_102 (by decide)
              · skip
                have hE := ite_t hE c_101
                have ho := ite_tP ho c_101
                refine lv_iconst (v := 1) X.1 X.2.1 dX12_clause_123 (by decide) ?_
                refine lv_goto (tgt := 128) X.1 X.2.1 dX12_clause_124 (by decide) ?_
                refine lv_istore_n (lv' := [(2, .int _), (1, .int _), (0, .ref _)]) X.1 X.2.1 dX12_clause_128 rfl hl (by decide) rfl (fun ls hl => ?_)
                refine lv_iload_n X.1 X.2.1 dX12_clause_129 rfl (lv_at hl 0 rfl) ?_
                refine lv_if_eq (tgt := 140) X.1 X.2.1 dX12_clause_130 (by decide) (fun c_113 => ?_) (fun c_113 => ?_)
                · exact absurd c_113 (by decide)
                · skip
                  refine lv_aload_n X.1 X.2.1 dX12_clause_133 rfl (lv_at hl 2 rfl) ?_
                  have ho315 := ho.1
                  have ho := ho.2
                  refine r_ev I (r_runV X I pk_X12_condition (c12_conditionR l G _ _ ho315) lm_X12_174 (by decide) (cl_12 rfl) rfl rfl rfl hl.1 rfl (Nat.le_of_ble_eq_true rfl) dX12_clause_134 ⟨Nat.le_of_ble_eq_true rfl, Nat.le_of_ble_eq_true rfl⟩ ⟨Nat.le_refl 0, Nat.le_refl 0⟩) (fun H locs I => ?_)
                  refine lv_goto (tgt := 184) X.1 X.2.1 dX12_clause_137 (by decide) ?_
                  refine lv_aload_n X.1 X.2.1 dX12_clause_184 rfl (lv_at hl 2 rfl) ?_
                  refine g12_11 X I (k := 123) (by decide) rfl lf_X12_28 dX12_clause_185 ?_
                  refine lv_iload_n X.1 X.2.1 dX12_clause_188 rfl (lv_at hl 1 rfl) ?_
                  refine lv_aload_n X.1 X.2.1 dX12_clause_189 rfl (lv_at hl 2 rfl) ?_
                  refine g12_10 X I (k := 123) (by decide) rfl lf_X12_25 dX12_clause_190 ?_
                  refine lv_iload_n X.1 X.2.1 dX12_clause_193 rfl (lv_at hl 1 rfl) ?_
                  have ho316 := ho.1
                  have ho := ho.2
                  refine r_ald X I (k := 129) (n := 700) (by decide) rfl ho316 dX12_clause_194 ?_
                  have ho317 := ho.1
                  have ho := ho.2
                  refine r_ast X I (k := 130) (n := 700) (by decide) rfl ho317 dX12_clause_195 (fun H locs I => ?_)
                  refine lv_iload_n X.1 X.2.1 dX12_clause_196 rfl (lv_at hl 0 rfl) ?_
                  refine lv_if_eq (tgt := 251) X.1 X.2.1 dX12_clause_197 (by decide) (fun c_114 => ?_) (fun c_114 => ?_)
                  · exact absurd c_114 (by decide)
                  · skip
                    refine lv_aload_n X.1 X.2.1 dX12_clause_200 rfl (lv_at hl 2 rfl) ?_
                    refine g12_4 X I (k := 123) (by decide) rfl lf_X12_122 dX12_clause_201 ?_
                    refine lv_iconst (v := (-1)) X.1 X.2.1 dX12_clause_204 (by decide) ?_
                    refine lv_icmp_ne (tgt := 251) X.1 X.2.1 dX12_clause_205 (by decide) (fun c_115 => ?_) (fun c_115 => ?_)
                    · skip
                      have hE := ite_f hE c_115
                      have ho := ite_fP ho c_115
                      refine lv_aload_n X.1 X.2.1 dX12_clause_251 rfl (lv_at hl 2 rfl) ?_
                      refine g12_12 X I (k := 123) (by decide) rfl lf_X12_31 dX12_clause_252 ?_
                      refine lv_iload_n X.1 X.2.1 dX12_clause_255 rfl (lv_at hl 1 rfl) ?_
                      refine lv_aload_n X.1 X.2.1 dX12_clause_256 rfl (lv_at hl 2 rfl) ?_
                      refine g12_8 X I (k := 123) (by decide) rfl lf_X12_19 dX12_clause_257 ?_
                      refine lv_aload_n X.1 X.2.1 dX12_clause_260 rfl (lv_at hl 2 rfl) ?_
                      refine g12_14 X I (k := 123) (by decide) rfl lf_X12_125 dX12_clause_261 ?_
                      have ho318 := ho.1
                      have ho := ho.2
                      refine r_ald X I (k := 127) (n := 5) (by decide) rfl ho318 dX12_clause_264 ?_
                      have ho319 := ho.1
                      have ho := ho.2
                      refine r_ast X I (k := 131) (n := 700) (by decide) rfl ho319 dX12_clause_265 (fun H locs I => ?_)
                      refine lv_aload_n X.1 X.2.1 dX12_clause_266 rfl (lv_at hl 2 rfl) ?_
                      refine g12_9 X I (k := 123) (by decide) rfl lf_X12_22 dX12_clause_267 ?_
                      refine lv_aload_n X.1 X.2.1 dX12_clause_270 rfl (lv_at hl 2 rfl) ?_
                      refine g12_14 X I (k := 123) (by decide) rfl lf_X12_125 dX12_clause_271 ?_
                      refine lv_dup2_11 X.1 X.2.1 dX12_clause_274 rfl rfl ?_
                      have ho320 := ho.1
                      have ho := ho.2
                      refine r_ald X I (k := 128) (n := 5) (by decide) rfl ho320 dX12_clause_275 ?_
                      refine lv_iconst (v := 1) X.1 X.2.1 dX12_clause_276 (by decide) ?_
                      refine lv_iadd X.1 X.2.1 dX12_clause_277 ?_
                      have ho321 := ho.1
                      have ho := ho.2
                      refine r_ast X I (k := 128) (n := 5) (by decide) rfl ho321 dX12_clause_278 (fun H locs I => ?_)
                      have h9 := hE
                      exact r_vret X I (e_v h9.symm rfl) dX12_clause_279
                    · skip
                      have hE := ite_t hE c_115
                      have ho := ite_tP ho c_115
                      refine lv_aload_n X.1 X.2.1 dX12_clause_208 rfl (lv_at hl 2 rfl) ?_
                      have ho322 := ho.1
                      have ho := ho.2
                      refine r_ei I (r_runV X I pk_X12_look (c12_look l G _ _ ho322) lm_X12_134 (by decide) (cl_12 rfl) rfl rfl rfl hl.1 rfl (Nat.le_of_ble_eq_true rfl) dX12_clause_209 ⟨Nat.le_of_ble_eq_true rfl, Nat.le_of_ble_eq_true rfl⟩ ⟨Nat.le_refl 0, Nat.le_refl 0⟩) (fun H locs I => ?_)
                      refine lv_bipush (v := 63) X.1 X.2.1 dX12_clause_212 (by decide) ?_
                      refine lv_icmp_eq (tgt := 222) X.1 X.2.1 dX12_clause_214 (by decide) (fun c_116 => ?_) (fun c_116 => ?_)
                      · skip
                        have hE := ite_t hE c_116
                        have ho := ite_tP ho c_116
                        refine lv_aload_n X.1 X.2.1 dX12_clause_222 rfl (lv_at hl 2 rfl) ?_
                        refine lv_dup X.1 X.2.1 dX12_clause_223 rfl ?_
                        refine g12_3 X I (k := 123) (by decide) rfl lf_X12_115 dX12_clause_224 ?_
                        refine lv_iconst (v := 1) X.1 X.2.1 dX12_clause_227 (by decide) ?_
                        refine lv_iadd X.1 X.2.1 dX12_clause_228 ?_
                        refine p12_3 X I (k := 123) (by decide) rfl lf_X12_115 dX12_clause_229 (fun H locs I => ?_)
                        refine lv_aload_n X.1 X.2.1 dX12_clause_232 rfl (lv_at hl 2 rfl) ?_
                        refine g12_11 X I (k := 123) (by decide) rfl lf_X12_28 dX12_clause_233 ?_
                        refine lv_iload_n X.1 X.2.1 dX12_clause_236 rfl (lv_at hl 1 rfl) ?_
                        refine lv_aload_n X.1 X.2.1 dX12_clause_237 rfl (lv_at hl 2 rfl) ?_
                        refine g12_8 X I (k := 123) (by decide) rfl lf_X12_19 dX12_clause_238 ?_
                        refine lv_aload_n X.1 X.2.1 dX12_clause_241 rfl (lv_at hl 2 rfl) ?_
                        refine g12_14 X I (k := 123) (by decide) rfl lf_X12_125 dX12_clause_242 ?_
                        have ho323 := ho.1
                        have ho := ho.2
                        refine r_ald X I (k := 127) (n := 5) (by decide) rfl ho323 dX12_clause_245 ?_
                        have ho324 := ho.1
                        have ho := ho.2
                        refine r_ast X I (k := 130) (n := 700) (by decide) rfl ho324 dX12_clause_246 (fun H locs I => ?_)
                        refine lv_aload_n X.1 X.2.1 dX12_clause_247 rfl (lv_at hl 2 rfl) ?_
                        have ho325 := ho.1
                        have ho := ho.2
                        refine r_ev I (r_runV X I pk_X12_sum (c12_sumR l G _ _ ho325) lm_X12_155 (by decide) (cl_12 rfl) rfl rfl rfl hl.1 rfl (Nat.le_of_ble_eq_true rfl) dX12_clause_248 ⟨Nat.le_of_ble_eq_true rfl, Nat.le_of_ble_eq_true rfl⟩ ⟨Nat.le_refl 0, Nat.le_refl 0⟩) (fun H locs I => ?_)
                        refine lv_aload_n X.1 X.2.1 dX12_clause_251 rfl (lv_at hl 2 rfl) ?_
                        refine g12_12 X I (k := 123) (by decide) rfl lf_X12_31 dX12_clause_252 ?_
                        refine lv_iload_n X.1 X.2.1 dX12_clause_255 rfl (lv_at hl 1 rfl) ?_
                        refine lv_aload_n X.1 X.2.1 dX12_clause_256 rfl (lv_at hl 2 rfl) ?_
                        refine g12_8 X I (k := 123) (by decide) rfl lf_X12_19 dX12_clause_257 ?_
                        refine lv_aload_n X.1 X.2.1 dX12_clause_260 rfl (lv_at hl 2 rfl) ?_
                        refine g12_14 X I (k := 123) (by decide) rfl lf_X12_125 dX12_clause_261 ?_
                        have ho326 := ho.1
                        have ho := ho.2
                        refine r_ald X I (k := 127) (n := 5) (by decide) rfl ho326 dX12_clause_264 ?_
                        have ho327 := ho.1
                        have ho := ho.2
                        refine r_ast X I (k := 131) (n := 700) (by decide) rfl ho327 dX12_clause_265 (fun H locs I => ?_)
                        refine lv_aload_n X.1 X.2.1 dX12_clause_266 rfl (lv_at hl 2 rfl) ?_
                        refine g12_9 X I (k := 123) (by decide) rfl lf_X12_22 dX12_clause_267 ?_
                        refine lv_aload_n X.1 X.2.1 dX12_clause_270 rfl (lv_at hl 2 rfl) ?_
                        refine g12_14 X I (k := 123) (by decide) rfl lf_X12_125 dX12_clause_271 ?_
                        refine lv_dup2_11 X.1 X.2.1 dX12_clause_274 rfl rfl ?_
                        have ho328 := ho.1
                        have ho := ho.2
                        refine r_ald X I (k := 128) (n := 5) (by decide) rfl ho328 dX12_clause_275 ?_
                        refine lv_iconst (v := 1) X.1 X.2.1 dX12_clause_276 (by decide) ?_
                        refine lv_iadd X.1 X.2.1 dX12_clause_277 ?_
                        have ho329 := ho.1
                        have ho := ho.2
                        refine r_ast X I (k := 128) (n := 5) (by decide) rfl ho329 dX12_clause_278 (fun H locs I => ?_)
                        have h9 := hE
                        exact r_vret X I (e_v h9.symm rfl) dX12_clause_279
                      · skip
                        have hE := ite_f hE c_116
                        have ho := ite_fP ho c_116
                        refine lv_aload_n X.1 X.2.1 dX12_clause_217 rfl (lv_at hl 2 rfl) ?_
                        refine r_ev I (r_runV X I pk_X12_bad (c12_bad l G _ _) lm_X12_131 (by decide) (cl_12 rfl) rfl rfl rfl hl.1 rfl (Nat.le_of_ble_eq_true rfl) dX12_clause_218 ⟨Nat.le_of_ble_eq_true rfl, Nat.le_of_ble_eq_true rfl⟩ ⟨Nat.le_refl 0, Nat.le_refl 0⟩) (fun H locs I => ?_)
                        have h9 := hE
                        exact r_vret X I (e_v h9.symm rfl) dX12_clause_221
          · skip
            have hE := ite_f hE c_95
            have ho := ite_fP ho c_95
            have h9 := hE
            exact r_vret X I (e_v h9.symm rfl) dX12_clause_89
        · skip
          have hE := ite_f hE c_94
          have ho := ite_fP ho c_94
          refine lv_aload_n X.1 X.2.1 dX12_clause_67 rfl (lv_at hl 1 rfl) ?_
          refine r_ev I (r_runV X I pk_X12_bad (c12_bad l G _ _) lm_X12_131 (by decide) (cl_12 rfl) rfl rfl rfl hl.1 rfl (Nat.le_of_ble_eq_true rfl) dX12_clause_68 ⟨Nat.le_of_ble_eq_true rfl, Nat.le_of_ble_eq_true rfl⟩ ⟨Nat.le_refl 0, Nat.le_refl 0⟩) (fun H locs I => ?_)
          refine lv_aload_n X.1 X.2.1 dX12_clause_71 rfl (lv_at hl 1 rfl) ?_
          refine lv_dup X.1 X.2.1 dX12_clause_72 rfl ?_
          refine g12_3 X I (k := 123) (by decide) rfl lf_X12_115 dX12_clause_73 ?_
          refine lv_iconst (v := 1) X.1 X.2.1 dX12_clause_76 (by decide) ?_
          refine lv_iadd X.1 X.2.1 dX12_clause_77 ?_
          refine p12_3 X I (k := 123) (by decide) rfl lf_X12_115 dX12_clause_78 (fun H locs I => ?_)
          refine lv_aload_n X.1 X.2.1 dX12_clause_81 rfl (lv_at hl 1 rfl) ?_
          refine g12_4 X I (k := 123) (by decide) rfl lf_X12_122 dX12_clause_82 ?_
          refine lv_iconst (v := (-1)) X.1 X.2.1 dX12_clause_85 (by decide) ?_
          refine lv_icmp_eq (tgt := 90) X.1 X.2.1 dX12_clause_86 (by decide) (fun c_117 => ?_) (fun c_117 => ?_)
          · skip
            have hE := ite_t hE c_117
            have ho := ite_tP ho c_117
            refine lv_aload_n X.1 X.2.1 dX12_clause_90 rfl (lv_at hl 1 rfl) ?_
            refine g12_10 X I (k := 123) (by decide) rfl lf_X12_25 dX12_clause_91 ?_
            refine lv_iload_n X.1 X.2.1 dX12_clause_94 rfl (lv_at hl 0 rfl) ?_
            refine lv_aload_n X.1 X.2.1 dX12_clause_95 rfl (lv_at hl 1 rfl) ?_
            refine g12_8 X I (k := 123) (by decide) rfl lf_X12_19 dX12_clause_96 ?_
            refine lv_aload_n X.1 X.2.1 dX12_clause_99 rfl (lv_at hl 1 rfl) ?_
            refine g12_14 X I (k := 123) (by decide) rfl lf_X12_125 dX12_clause_100 ?_
            have ho330 := ho.1
            have ho := ho.2
            refine r_ald X I (k := 127) (n := 5) (by decide) rfl ho330 dX12_clause_103 ?_
            have ho331 := ho.1
            have ho := ho.2
            refine r_ast X I (k := 129) (n := 700) (by decide) rfl ho331 dX12_clause_104 (fun H locs I => ?_)
            refine lv_aload_n X.1 X.2.1 dX12_clause_105 rfl (lv_at hl 1 rfl) ?_
            have ho332 := ho.1
            have ho := ho.2
            refine r_ei I (r_runV X I pk_X12_look (c12_look l G _ _ ho332) lm_X12_134 (by decide) (cl_12 rfl) rfl rfl rfl hl.1 rfl (Nat.le_of_ble_eq_true rfl) dX12_clause_106 ⟨Nat.le_of_ble_eq_true rfl, Nat.le_of_ble_eq_true rfl⟩ ⟨Nat.le_refl 0, Nat.le_refl 0⟩) (fun H locs I => ?_)
            refine lv_bipush (v := 33) X.1 X.2.1 dX12_clause_109 (by decide) ?_
            refine lv_icmp_eq (tgt := 123) X.1 X.2.1 dX12_clause_111 (by decide) (fun c_118 => ?_) (fun c_118 => ?_)
            · skip
              have hE := ite_t hE c_118
              have ho := ite_tP ho c_118
              refine lv_iconst (v := 1) X.1 X.2.1 dX12_clause_123 (by decide) ?_
              refine lv_goto (tgt := 128) X.1 X.2.1 dX12_clause_124 (by decide) ?_
              refine lv_istore_n (lv' := [(2, .int _), (1, .int _), (0, .ref _)]) X.1 X.2.1 dX12_clause_128 rfl hl (by decide) rfl (fun ls hl => ?_)
              refine lv_iload_n X.1 X.2.1 dX12_clause_129 rfl (lv_at hl 0 rfl) ?_
              refine lv_if_eq (tgt := 140) X.1 X.2.1 dX12_clause_130 (by decide) (fun c_119 => ?_) (fun c_119 => ?_)
              · exact absurd c_119 (by decide)
              · skip
                refine lv_aload_n X.1 X.2.1 dX12_clause_133 rfl (lv_at hl 2 rfl) ?_
                have ho333 := ho.1
                have ho := ho.2
                refine r_ev I (r_runV X I pk_X12_condition (c12_conditionR l G _ _ ho333) lm_X12_174 (by decide) (cl_12 rfl) rfl rfl rfl hl.1 rfl (Nat.le_of_ble_eq_true rfl) dX12_clause_134 ⟨Nat.le_of_ble_eq_true rfl, Nat.le_of_ble_eq_true rfl⟩ ⟨Nat.le_refl 0, Nat.le_refl 0⟩) (fun H locs I => ?_)
                refine lv_goto (tgt := 184) X.1 X.2.1 dX12_clause_137 (by decide) ?_
                refine lv_aload_n X.1 X.2.1 dX12_clause_184 rfl (lv_at hl 2 rfl) ?_
                refine g12_11 X I (k := 123) (by decide) rfl lf_X12_28 dX12_clause_185 ?_
                refine lv_iload_n X.1 X.2.1 dX12_clause_188 rfl (lv_at hl 1 rfl) ?_
                refine lv_aload_n X.1 X.2.1 dX12_clause_189 rfl (lv_at hl 2 rfl) ?_
                refine g12_10 X I (k := 123) (by decide) rfl lf_X12_25 dX12_clause_190 ?_
                refine lv_iload_n X.1 X.2.1 dX12_clause_193 rfl (lv_at hl 1 rfl) ?_
                have ho334 := ho.1
                have ho := ho.2
                refine r_ald X I (k := 129) (n := 700) (by decide) rfl ho334 dX12_clause_194 ?_
                have ho335 := ho.1
                have ho := ho.2
                refine r_ast X I (k := 130) (n := 700) (by decide) rfl ho335 dX12_clause_195 (fun H locs I => ?_)
                refine lv_iload_n X.1 X.2.1 dX12_clause_196 rfl (lv_at hl 0 rfl) ?_
                refine lv_if_eq (tgt := 251) X.1 X.2.1 dX12_clause_197 (by decide) (fun c_120 => ?_) (fun c_120 => ?_)
                · exact absurd c_120 (by decide)
                · skip
                  refine lv_aload_n X.1 X.2.1 dX12_clause_200 rfl (lv_at hl 2 rfl) ?_
                  refine g12_4 X I (k := 123) (by decide) rfl lf_X12_122 dX12_clause_201 ?_
                  refine lv_iconst (v := (-1)) X.1 X.2.1 dX12_clause_204 (by decide) ?_
                  refine lv_icmp_ne (tgt := 251) X.1 X.2.1 dX12_clause_205 (by decide) (fun c_121 => ?_) (fun c_121 => ?_)
                  · skip
                    have hE := ite_f hE c_121
                    have ho := ite_fP ho c_121
                    refine lv_aload_n X.1 X.2.1 dX12_clause_251 rfl (lv_at hl 2 rfl) ?_
                    refine g12_12 X I (k := 123) (by decide) rfl lf_X12_31 dX12_clause_252 ?_
                    refine lv_iload_n X.1 X.2.1 dX12_clause_255 rfl (lv_at hl 1 rfl) ?_
                    refine lv_aload_n X.1 X.2.1 dX12_clause_256 rfl (lv_at hl 2 rfl) ?_
                    refine g12_8 X I (k := 123) (by decide) rfl lf_X12_19 dX12_clause_257 ?_
                    refine lv_aload_n X.1 X.2.1 dX12_clause_260 rfl (lv_at hl 2 rfl) ?_
                    refine g12_14 X I (k := 123) (by decide) rfl lf_X12_125 dX12_clause_261 ?_
                    have ho336 := ho.1
                    have ho := ho.2
                    refine r_ald X I (k := 127) (n := 5) (by decide) rfl ho336 dX12_clause_264 ?_
                    have ho337 := ho.1
                    have ho := ho.2
                    refine r_ast X I (k := 131) (n := 700) (by decide) rfl ho337 dX12_clause_265 (fun H locs I => ?_)
                    refine lv_aload_n X.1 X.2.1 dX12_clause_266 rfl (lv_at hl 2 rfl) ?_
                    refine g12_9 X I (k := 123) (by decide) rfl lf_X12_22 dX12_clause_267 ?_
                    refine lv_aload_n X.1 X.2.1 dX12_clause_270 rfl (lv_at hl 2 rfl) ?_
                    refine g12_14 X I (k := 123) (by decide) rfl lf_X12_125 dX12_clause_271 ?_
                    refine lv_dup2_11 X.1 X.2.1 dX12_clause_274 rfl rfl ?_
                    have ho338 := ho.1
                    have ho := ho.2
                    refine r_ald X I (k := 128) (n := 5) (by decide) rfl ho338 dX12_clause_275 ?_
                    refine lv_iconst (v := 1) X.1 X.2.1 dX12_clause_276 (by decide) ?_
                    refine lv_iadd X.1 X.2.1 dX12_clause_277 ?_
                    have ho339 := ho.1
                    have ho := ho.2
                    refine r_ast X I (k := 128) (n := 5) (by decide) rfl ho339 dX12_clause_278 (fun H locs I => ?_)
                    have h9 := hE
                    exact r_vret X I (e_v h9.symm rfl) dX12_clause_279
                  · skip
                    have hE := ite_t hE c_121
                    have ho := ite_tP ho c_121
                    refine lv_aload_n X.1 X.2.1 dX12_clause_208 rfl (lv_at hl 2 rfl) ?_
                    have ho340 := ho.1
                    have ho := ho.2
                    refine r_ei I (r_runV X I pk_X12_look (c12_look l G _ _ ho340) lm_X12_134 (by decide) (cl_12 rfl) rfl rfl rfl hl.1 rfl (Nat.le_of_ble_eq_true rfl) dX12_clause_209 ⟨Nat.le_of_ble_eq_true rfl, Nat.le_of_ble_eq_true rfl⟩ ⟨Nat.le_refl 0, Nat.le_refl 0⟩) (fun H locs I => ?_)
                    refine lv_bipush (v := 63) X.1 X.2.1 dX12_clause_212 (by decide) ?_
                    refine lv_icmp_eq (tgt := 222) X.1 X.2.1 dX12_clause_214 (by decide) (fun c_122 => ?_) (fun c_122 => ?_)
                    · skip
                      have hE := ite_t hE c_122
                      have ho := ite_tP ho c_122
                      refine lv_aload_n X.1 X.2.1 dX12_clause_222 rfl (lv_at hl 2 rfl) ?_
                      refine lv_dup X.1 X.2.1 dX12_clause_223 rfl ?_
                      refine g12_3 X I (k := 123) (by decide) rfl lf_X12_115 dX12_clause_224 ?_
                      refine lv_iconst (v := 1) X.1 X.2.1 dX12_clause_227 (by decide) ?_
                      refine lv_iadd X.1 X.2.1 dX12_clause_228 ?_
                      refine p12_3 X I (k := 123) (by decide) rfl lf_X12_115 dX12_clause_229 (fun H locs I => ?_)
                      refine lv_aload_n X.1 X.2.1 dX12_clause_232 rfl (lv_at hl 2 rfl) ?_
                      refine g12_11 X I (k := 123) (by decide) rfl lf_X12_28 dX12_clause_233 ?_
                      refine lv_iload_n X.1 X.2.1 dX12_clause_236 rfl (lv_at hl 1 rfl) ?_
                      refine lv_aload_n X.1 X.2.1 dX12_clause_237 rfl (lv_at hl 2 rfl) ?_
                      refine g12_8 X I (k := 123) (by decide) rfl lf_X12_19 dX12_clause_238 ?_
                      refine lv_aload_n X.1 X.2.1 dX12_clause_241 rfl (lv_at hl 2 rfl) ?_
                      refine g12_14 X I (k := 123) (by decide) rfl lf_X12_125 dX12_clause_242 ?_
                      have ho341 := ho.1
                      have ho := ho.2
                      refine r_ald X I (k := 127) (n := 5) (by decide) rfl ho341 dX12_clause_245 ?_
                      have ho342 := ho.1
                      have ho := ho.2
                      refine r_ast X I (k := 130) (n := 700) (by decide) rfl ho342 dX12_clause_246 (fun H locs I => ?_)
                      refine lv_aload_n X.1 X.2.1 dX12_clause_247 rfl (lv_at hl 2 rfl) ?_
                      have ho343 := ho.1
                      have ho := ho.2
                      refine r_ev I (r_runV X I pk_X12_sum (c12_sumR l G _ _ ho343) lm_X12_155 (by decide) (cl_12 rfl) rfl rfl rfl hl.1 rfl (Nat.le_of_ble_eq_true rfl) dX12_clause_248 ⟨Nat.le_of_ble_eq_true rfl, Nat.le_of_ble_eq_true rfl⟩ ⟨Nat.le_refl 0, Nat.le_refl 0⟩) (fun H locs I => ?_)
                      refine lv_aload_n X.1 X.2.1 dX12_clause_251 rfl (lv_at hl 2 rfl) ?_
                      refine g12_12 X I (k := 123) (by decide) rfl lf_X12_31 dX12_clause_252 ?_
                      refine lv_iload_n X.1 X.2.1 dX12_clause_255 rfl (lv_at hl 1 rfl) ?_
                      refine lv_aload_n X.1 X.2.1 dX12_clause_256 rfl (lv_at hl 2 rfl) ?_
                      refine g12_8 X I (k := 123) (by decide) rfl lf_X12_19 dX12_clause_257 ?_
                      refine lv_aload_n X.1 X.2.1 dX12_clause_260 rfl (lv_at hl 2 rfl) ?_
                      refine g12_14 X I (k := 123) (by decide) rfl lf_X12_125 dX12_clause_261 ?_
                      have ho344 := ho.1
                      have ho := ho.2
                      refine r_ald X I (k := 127) (n := 5) (by decide) rfl ho344 dX12_clause_264 ?_
                      have ho345 := ho.1
                      have ho := ho.2
                      refine r_ast X I (k := 131) (n := 700) (by decide) rfl ho345 dX12_clause_265 (fun H locs I => ?_)
                      refine lv_aload_n X.1 X.2.1 dX12_clause_266 rfl (lv_at hl 2 rfl) ?_
                      refine g12_9 X I (k := 123) (by decide) rfl lf_X12_22 dX12_clause_267 ?_
                      refine lv_aload_n X.1 X.2.1 dX12_clause_270 rfl (lv_at hl 2 rfl) ?_
                      refine g12_14 X I (k := 123) (by decide) rfl lf_X12_125 dX12_clause_271 ?_
                      refine lv_dup2_11 X.1 X.2.1 dX12_clause_274 rfl rfl ?_
                      have ho346 := ho.1
                      have ho := ho.2
                      refine r_ald X I (k := 128) (n := 5) (by decide) rfl ho346 dX12_clause_275 ?_
                      refine lv_iconst (v := 1) X.1 X.2.1 dX12_clause_276 (by decide) ?_
                      refine lv_iadd X.1 X.2.1 dX12_clause_277 ?_
                      have ho347 := ho.1
                      have ho := ho.2
                      refine r_ast X I (k := 128) (n := 5) (by decide) rfl ho347 dX12_clause_278 (fun H locs I => ?_)
                      have h9 := hE
                      exact r_vret X I (e_v h9.symm rfl) dX12_clause_279
                    · skip
                      have hE := ite_f hE c_122
                      have ho := ite_fP ho c_122
                      refine lv_aload_n X.1 X.2.1 dX12_clause_217 rfl (lv_at hl 2 rfl) ?_
                      refine r_ev I (r_runV X I pk_X12_bad (c12_bad l G _ _) lm_X12_131 (by decide) (cl_12 rfl) rfl rfl rfl hl.1 rfl (Nat.le_of_ble_eq_true rfl) dX12_clause_218 ⟨Nat.le_of_ble_eq_true rfl, Nat.le_of_ble_eq_true rfl⟩ ⟨Nat.le_refl 0, Nat.le_refl 0⟩) (fun H locs I => ?_)
                      have h9 := hE
                      exact r_vret X I (e_v h9.symm rfl) dX12_clause_221
            · skip
              have hE := ite_f hE c_118
              have ho := ite_fP ho c_118
              refine lv_aload_n X.1 X.2.1 dX12_clause_114 rfl (lv_at hl 1 rfl) ?_
              have ho348 := ho.1
              have ho := ho.2
              refine r_ei I (r_runV X I pk_X12_look (c12_look l G _ _ ho348) lm_X12_134 (by decide) (cl_12 rfl) rfl rfl rfl hl.1 rfl (Nat.le_of_ble_eq_true rfl) dX12_clause_115 ⟨Nat.le_of_ble_eq_true rfl, Nat.le_of_ble_eq_true rfl⟩ ⟨Nat.le_refl 0, Nat.le_refl 0⟩) (fun H locs I => ?_)
              refine lv_bipush (v := 40) X.1 X.2.1 dX12_clause_118 (by decide) ?_
              refine lv_icmp_ne (tgt := 127) X.1 X.2.1 dX12_clause_120 (by decide) (fun c_123 => ?_) (fun c_123 => ?_)
              · skip
                have hE := ite_f hE c_123
                have ho := ite_fP ho c_123
                refine lv_iconst (v := 0) X.1 X.2.1 dX12_clause_127 (by decide) ?_
                refine lv_istore_n (lv' := [(2, .int _), (1, .int _), (0, .ref _)]) X.1 X.2.1 dX12_clause_128 rfl hl (by decide) rfl (fun ls hl => ?_)
                refine lv_iload_n X.1 X.2.1 dX12_clause_129 rfl (lv_at hl 0 rfl) ?_
                refine lv_if_eq (tgt := 140) X.1 X.2.1 dX12_clause_130 (by decide) (fun c_124 => ?_) (fun c_124 => ?_)
                · skip
                  refine lv_aload_n X.1 X.2.1 dX12_clause_140 rfl (lv_at hl 2 rfl) ?_
                  have ho349 := ho.1
                  have ho := ho.2
                  refine r_ev I (r_runV X I pk_X12_sum (c12_sumR l G _ _ ho349) lm_X12_155 (by decide) (cl_12 rfl) rfl rfl rfl hl.1 rfl (Nat.le_of_ble_eq_true rfl) dX12_clause_141 ⟨Nat.le_of_ble_eq_true rfl, Nat.le_of_ble_eq_true rfl⟩ ⟨Nat.le_refl 0, Nat.le_refl 0⟩) (fun H locs I => ?_)
                  refine lv_aload_n X.1 X.2.1 dX12_clause_144 rfl (lv_at hl 2 rfl) ?_
                  refine g12_4 X I (k := 123) (by decide) rfl lf_X12_122 dX12_clause_145 ?_
                  refine lv_iconst (v := (-1)) X.1 X.2.1 dX12_clause_148 (by decide) ?_
                  refine lv_icmp_ne (tgt := 166) X.1 X.2.1 dX12_clause_149 (by decide) (fun c_125 => ?_) (fun c_125 => ?_)
                  · skip
                    have hE := ite_f hE c_125
                    have ho := ite_fP ho c_125
                    refine lv_iconst (v := 0) X.1 X.2.1 dX12_clause_166 (by decide) ?_
                    refine lv_istore_n (lv' := [(2, .int _), (1, .int _), (0, .ref _)]) X.1 X.2.1 dX12_clause_167 rfl hl (by decide) rfl (fun ls hl => ?_)
                    refine lv_iload_n X.1 X.2.1 dX12_clause_168 rfl (lv_at hl 0 rfl) ?_
                    refine lv_if_eq (tgt := 184) X.1 X.2.1 dX12_clause_169 (by decide) (fun c_126 => ?_) (fun c_126 => ?_)
                    · skip
                      refine lv_aload_n X.1 X.2.1 dX12_clause_184 rfl (lv_at hl 2 rfl) ?_
                      refine g12_11 X I (k := 123) (by decide) rfl lf_X12_28 dX12_clause_185 ?_
                      refine lv_iload_n X.1 X.2.1 dX12_clause_188 rfl (lv_at hl 1 rfl) ?_
                      refine lv_aload_n X.1 X.2.1 dX12_clause_189 rfl (lv_at hl 2 rfl) ?_
                      refine g12_10 X I (k := 123) (by decide) rfl lf_X12_25 dX12_clause_190 ?_
                      refine lv_iload_n X.1 X.2.1 dX12_clause_193 rfl (lv_at hl 1 rfl) ?_
                      have ho350 := ho.1
                      have ho := ho.2
                      refine r_ald X I (k := 129) (n := 700) (by decide) rfl ho350 dX12_clause_194 ?_
                      have ho351 := ho.1
                      have ho := ho.2
                      refine r_ast X I (k := 130) (n := 700) (by decide) rfl ho351 dX12_clause_195 (fun H locs I => ?_)
                      refine lv_iload_n X.1 X.2.1 dX12_clause_196 rfl (lv_at hl 0 rfl) ?_
                      refine lv_if_eq (tgt := 251) X.1 X.2.1 dX12_clause_197 (by decide) (fun c_127 => ?_) (fun c_127 => ?_)
                      · skip
                        refine lv_aload_n X.1 X.2.1 dX12_clause_251 rfl (lv_at hl 2 rfl) ?_
                        refine g12_12 X I (k := 123) (by decide) rfl lf_X12_31 dX12_clause_252 ?_
                        refine lv_iload_n X.1 X.2.1 dX12_clause_255 rfl (lv_at hl 1 rfl) ?_
                        refine lv_aload_n X.1 X.2.1 dX12_clause_256 rfl (lv_at hl 2 rfl) ?_
                        refine g12_8 X I (k := 123) (by decide) rfl lf_X12_19 dX12_clause_257 ?_
                        refine lv_aload_n X.1 X.2.1 dX12_clause_260 rfl (lv_at hl 2 rfl) ?_
                        refine g12_14 X I (k := 123) (by decide) rfl lf_X12_125 dX12_clause_261 ?_
                        have ho352 := ho.1
                        have ho := ho.2
                        refine r_ald X I (k := 127) (n := 5) (by decide) rfl ho352 dX12_clause_264 ?_
                        have ho353 := ho.1
                        have ho := ho.2
                        refine r_ast X I (k := 131) (n := 700) (by decide) rfl ho353 dX12_clause_265 (fun H locs I => ?_)
                        refine lv_aload_n X.1 X.2.1 dX12_clause_266 rfl (lv_at hl 2 rfl) ?_
                        refine g12_9 X I (k := 123) (by decide) rfl lf_X12_22 dX12_clause_267 ?_
                        refine lv_aload_n X.1 X.2.1 dX12_clause_270 rfl (lv_at hl 2 rfl) ?_
                        refine g12_14 X I (k := 123) (by decide) rfl lf_X12_125 dX12_clause_271 ?_
                        refine lv_dup2_11 X.1 X.2.1 dX12_clause_274 rfl rfl ?_
                        have ho354 := ho.1
                        have ho := ho.2
                        refine r_ald X I (k := 128) (n := 5) (by decide) rfl ho354 dX12_clause_275 ?_
                        refine lv_iconst (v := 1) X.1 X.2.1 dX12_clause_276 (by decide) ?_
                        refine lv_iadd X.1 X.2.1 dX12_clause_277 ?_
                        have ho355 := ho.1
                        have ho := ho.2
                        refine r_ast X I (k := 128) (n := 5) (by decide) rfl ho355 dX12_clause_278 (fun H locs I => ?_)
                        have h9 := hE
                        exact r_vret X I (e_v h9.symm rfl) dX12_clause_279
                      · exact absurd c_127 (by decide)
                    · exact absurd c_126 (by decide)
                  · skip
                    have hE := ite_t hE c_125
                    have ho := ite_tP ho c_125
                    refine lv_aload_n X.1 X.2.1 dX12_clause_152 rfl (lv_at hl 2 rfl) ?_
                    have ho356 := ho.1
                    have ho := ho.2
                    refine r_ei I (r_runV X I pk_X12_look (c12_look l G _ _ ho356) lm_X12_134 (by decide) (cl_12 rfl) rfl rfl rfl hl.1 rfl (Nat.le_of_ble_eq_true rfl) dX12_clause_153 ⟨Nat.le_of_ble_eq_true rfl, Nat.le_of_ble_eq_true rfl⟩ ⟨Nat.le_refl 0, Nat.le_refl 0⟩) (fun H locs I => ?_)
                    refine r_ei I (r_runS X I pk_X12_isSign (c12_isSign l G _ _ _) lm_X12_168 rfl hl.1 rfl (Nat.le_of_ble_eq_true rfl) dX12_clause_156 ⟨Nat.le_of_ble_eq_true rfl, Nat.le_of_ble_eq_true rfl⟩ ⟨Nat.le_refl 0, Nat.le_refl 0⟩) (fun H locs I => ?_)
                    refine lv_if_eq (tgt := 166) X.1 X.2.1 dX12_clause_159 (by decide) (fun c_128 => ?_) (fun c_128 => ?_)
                    · skip
                      have hE := ite_f hE (b2i_n c_128)
                      have ho := ite_fP ho (b2i_n c_128)
                      refine lv_iconst (v := 0) X.1 X.2.1 dX12_clause_166 (by decide) ?_
                      refine lv_istore_n (lv' := [(2, .int _), (1, .int _), (0, .ref _)]) X.1 X.2.1 dX12_clause_167 rfl hl (by decide) rfl (fun ls hl => ?_)
                      refine lv_iload_n X.1 X.2.1 dX12_clause_168 rfl (lv_at hl 0 rfl) ?_
                      refine lv_if_eq (tgt := 184) X.1 X.2.1 dX12_clause_169 (by decide) (fun c_129 => ?_) (fun c_129 => ?_)
                      · skip
                        refine lv_aload_n X.1 X.2.1 dX12_clause_184 rfl (lv_at hl 2 rfl) ?_
                        refine g12_11 X I (k := 123) (by decide) rfl lf_X12_28 dX12_clause_185 ?_
                        refine lv_iload_n X.1 X.2.1 dX12_clause_188 rfl (lv_at hl 1 rfl) ?_
                        refine lv_aload_n X.1 X.2.1 dX12_clause_189 rfl (lv_at hl 2 rfl) ?_
                        refine g12_10 X I (k := 123) (by decide) rfl lf_X12_25 dX12_clause_190 ?_
                        refine lv_iload_n X.1 X.2.1 dX12_clause_193 rfl (lv_at hl 1 rfl) ?_
                        have ho357 := ho.1
                        have ho := ho.2
                        refine r_ald X I (k := 129) (n := 700) (by decide) rfl ho357 dX12_clause_194 ?_
                        have ho358 := ho.1
                        have ho := ho.2
                        refine r_ast X I (k := 130) (n := 700) (by decide) rfl ho358 dX12_clause_195 (fun H locs I => ?_)
                        refine lv_iload_n X.1 X.2.1 dX12_clause_196 rfl (lv_at hl 0 rfl) ?_
                        refine lv_if_eq (tgt := 251) X.1 X.2.1 dX12_clause_197 (by decide) (fun c_130 => ?_) (fun c_130 => ?_)
                        · skip
                          refine lv_aload_n X.1 X.2.1 dX12_clause_251 rfl (lv_at hl 2 rfl) ?_
                          refine g12_12 X I (k := 123) (by decide) rfl lf_X12_31 dX12_clause_252 ?_
                          refine lv_iload_n X.1 X.2.1 dX12_clause_255 rfl (lv_at hl 1 rfl) ?_
                          refine lv_aload_n X.1 X.2.1 dX12_clause_256 rfl (lv_at hl 2 rfl) ?_
                          refine g12_8 X I (k := 123) (by decide) rfl lf_X12_19 dX12_clause_257 ?_
                          refine lv_aload_n X.1 X.2.1 dX12_clause_260 rfl (lv_at hl 2 rfl) ?_
                          refine g12_14 X I (k := 123) (by decide) rfl lf_X12_125 dX12_clause_261 ?_
                          have ho359 := ho.1
                          have ho := ho.2
                          refine r_ald X I (k := 127) (n := 5) (by decide) rfl ho359 dX12_clause_264 ?_
                          have ho360 := ho.1
                          have ho := ho.2
                          refine r_ast X I (k := 131) (n := 700) (by decide) rfl ho360 dX12_clause_265 (fun H locs I => ?_)
                          refine lv_aload_n X.1 X.2.1 dX12_clause_266 rfl (lv_at hl 2 rfl) ?_
                          refine g12_9 X I (k := 123) (by decide) rfl lf_X12_22 dX12_clause_267 ?_
                          refine lv_aload_n X.1 X.2.1 dX12_clause_270 rfl (lv_at hl 2 rfl) ?_
                          refine g12_14 X I (k := 123) (by decide) rfl lf_X12_125 dX12_clause_271 ?_
                          refine lv_dup2_11 X.1 X.2.1 dX12_clause_274 rfl rfl ?_
                          have ho361 := ho.1
                          have ho := ho.2
                          refine r_ald X I (k := 128) (n := 5) (by decide) rfl ho361 dX12_clause_275 ?_
                          refine lv_iconst (v := 1) X.1 X.2.1 dX12_clause_276 (by decide) ?_
                          refine lv_iadd X.1 X.2.1 dX12_clause_277 ?_
                          have ho362 := ho.1
                          have ho := ho.2
                          refine r_ast X I (k := 128) (n := 5) (by decide) rfl ho362 dX12_clause_278 (fun H locs I => ?_)
                          have h9 := hE
                          exact r_vret X I (e_v h9.symm rfl) dX12_clause_279
                        · exact absurd c_130 (by decide)
                      · exact absurd c_129 (by decide)
                    · skip
                      have hE := ite_t hE (b2i_y c_128)
                      have ho := ite_tP ho (b2i_y c_128)
                      refine lv_iconst (v := 1) X.1 X.2.1 dX12_clause_162 (by decide) ?_
                      refine lv_goto (tgt := 167) X.1 X.2.1 dX12_clause_163 (by decide) ?_
                      refine lv_istore_n (lv' := [(2, .int _), (1, .int _), (0, .ref _)]) X.1 X.2.1 dX12_clause_167 rfl hl (by decide) rfl (fun ls hl => ?_)
                      refine lv_iload_n X.1 X.2.1 dX12_clause_168 rfl (lv_at hl 0 rfl) ?_
                      refine lv_if_eq (tgt := 184) X.1 X.2.1 dX12_clause_169 (by decide) (fun c_131 => ?_) (fun c_131 => ?_)
                      · exact absurd c_131 (by decide)
                      · skip
                        refine lv_aload_n X.1 X.2.1 dX12_clause_172 rfl (lv_at hl 2 rfl) ?_
                        have ho363 := ho.1
                        have ho := ho.2
                        refine r_ev I (r_runV X I pk_X12_compare (c12_compare l G _ _ ho363) lm_X12_177 (by decide) (cl_12 rfl) rfl rfl rfl hl.1 rfl (Nat.le_of_ble_eq_true rfl) dX12_clause_173 ⟨Nat.le_of_ble_eq_true rfl, Nat.le_of_ble_eq_true rfl⟩ ⟨Nat.le_refl 0, Nat.le_refl 0⟩) (fun H locs I => ?_)
                        refine lv_aload_n X.1 X.2.1 dX12_clause_176 rfl (lv_at hl 2 rfl) ?_
                        have ho364 := ho.1
                        have ho := ho.2
                        refine r_ev I (r_runV X I pk_X12_goOnAnd (c12_goOnAndR l G _ _ ho364) lm_X12_180 (by decide) (cl_12 rfl) rfl rfl rfl hl.1 rfl (Nat.le_of_ble_eq_true rfl) dX12_clause_177 ⟨Nat.le_of_ble_eq_true rfl, Nat.le_of_ble_eq_true rfl⟩ ⟨Nat.le_refl 0, Nat.le_refl 0⟩) (fun H locs I => ?_)
                        refine lv_aload_n X.1 X.2.1 dX12_clause_180 rfl (lv_at hl 2 rfl) ?_
                        have ho365 := ho.1
                        have ho := ho.2
                        refine r_ev I (r_runV X I pk_X12_goOnOr (c12_goOnOrR l G _ _ ho365) lm_X12_183 (by decide) (cl_12 rfl) rfl rfl rfl hl.1 rfl (Nat.le_of_ble_eq_true rfl) dX12_clause_181 ⟨Nat.le_of_ble_eq_true rfl, Nat.le_of_ble_eq_true rfl⟩ ⟨Nat.le_refl 0, Nat.le_refl 0⟩) (fun H locs I => ?_)
                        refine lv_aload_n X.1 X.2.1 dX12_clause_184 rfl (lv_at hl 2 rfl) ?_
                        refine g12_11 X I (k := 123) (by decide) rfl lf_X12_28 dX12_clause_185 ?_
                        refine lv_iload_n X.1 X.2.1 dX12_clause_188 rfl (lv_at hl 1 rfl) ?_
                        refine lv_aload_n X.1 X.2.1 dX12_clause_189 rfl (lv_at hl 2 rfl) ?_
                        refine g12_10 X I (k := 123) (by decide) rfl lf_X12_25 dX12_clause_190 ?_
                        refine lv_iload_n X.1 X.2.1 dX12_clause_193 rfl (lv_at hl 1 rfl) ?_
                        have ho366 := ho.1
                        have ho := ho.2
                        refine r_ald X I (k := 129) (n := 700) (by decide) rfl ho366 dX12_clause_194 ?_
                        have ho367 := ho.1
                        have ho := ho.2
                        refine r_ast X I (k := 130) (n := 700) (by decide) rfl ho367 dX12_clause_195 (fun H locs I => ?_)
                        refine lv_iload_n X.1 X.2.1 dX12_clause_196 rfl (lv_at hl 0 rfl) ?_
                        refine lv_if_eq (tgt := 251) X.1 X.2.1 dX12_clause_197 (by decide) (fun c_132 => ?_) (fun c_132 => ?_)
                        · exact absurd c_132 (by decide)
                        · skip
                          refine lv_aload_n X.1 X.2.1 dX12_clause_200 rfl (lv_at hl 2 rfl) ?_
                          refine g12_4 X I (k := 123) (by decide) rfl lf_X12_122 dX12_clause_201 ?_
                          refine lv_iconst (v := (-1)) X.1 X.2.1 dX12_clause_204 (by decide) ?_
                          refine lv_icmp_ne (tgt := 251) X.1 X.2.1 dX12_clause_205 (by decide) (fun c_133 => ?_) (fun c_133 => ?_)
                          · skip
                            have hE := ite_f hE c_133
                            have ho := ite_fP ho c_133
                            refine lv_aload_n X.1 X.2.1 dX12_clause_251 rfl (lv_at hl 2 rfl) ?_
                            refine g12_12 X I (k := 123) (by decide) rfl lf_X12_31 dX12_clause_252 ?_
                            refine lv_iload_n X.1 X.2.1 dX12_clause_255 rfl (lv_at hl 1 rfl) ?_
                            refine lv_aload_n X.1 X.2.1 dX12_clause_256 rfl (lv_at hl 2 rfl) ?_
                            refine g12_8 X I (k := 123) (by decide) rfl lf_X12_19 dX12_clause_257 ?_
                            refine lv_aload_n X.1 X.2.1 dX12_clause_260 rfl (lv_at hl 2 rfl) ?_
                            refine g12_14 X I (k := 123) (by decide) rfl lf_X12_125 dX12_clause_261 ?_
                            have ho368 := ho.1
                            have ho := ho.2
                            refine r_ald X I (k := 127) (n := 5) (by decide) rfl ho368 dX12_clause_264 ?_
                            have ho369 := ho.1
                            have ho := ho.2
                            refine r_ast X I (k := 131) (n := 700) (by decide) rfl ho369 dX12_clause_265 (fun H locs I => ?_)
                            refine lv_aload_n X.1 X.2.1 dX12_clause_266 rfl (lv_at hl 2 rfl) ?_
                            refine g12_9 X I (k := 123) (by decide) rfl lf_X12_22 dX12_clause_267 ?_
                            refine lv_aload_n X.1 X.2.1 dX12_clause_270 rfl (lv_at hl 2 rfl) ?_
                            refine g12_14 X I (k := 123) (by decide) rfl lf_X12_125 dX12_clause_271 ?_
                            refine lv_dup2_11 X.1 X.2.1 dX12_clause_274 rfl rfl ?_
                            have ho370 := ho.1
                            have ho := ho.2
                            refine r_ald X I (k := 128) (n := 5) (by decide) rfl ho370 dX12_clause_275 ?_
                            refine lv_iconst (v := 1) X.1 X.2.1 dX12_clause_276 (by decide) ?_
                            refine lv_iadd X.1 X.2.1 dX12_clause_277 ?_
                            have ho371 := ho.1
                            have ho := ho.2
                            refine r_ast X I (k := 128) (n := 5) (by decide) rfl ho371 dX12_clause_278 (fun H locs I => ?_)
                            have h9 := hE
                            exact r_vret X I (e_v h9.symm rfl) dX12_clause_279
                          · skip
                            have hE := ite_t hE c_133
                            have ho := ite_tP ho c_133
                            refine lv_aload_n X.1 X.2.1 dX12_clause_208 rfl (lv_at hl 2 rfl) ?_
                            have ho372 := ho.1
                            have ho := ho.2
                            refine r_ei I (r_runV X I pk_X12_look (c12_look l G _ _ ho372) lm_X12_134 (by decide) (cl_12 rfl) rfl rfl rfl hl.1 rfl (Nat.le_of_ble_eq_true rfl) dX12_clause_209 ⟨Nat.le_of_ble_eq_true rfl, Nat.le_of_ble_eq_true rfl⟩ ⟨Nat.le_refl 0, Nat.le_refl 0⟩) (fun H locs I => ?_)
                            refine lv_bipush (v := 63) X.1 X.2.1 dX12_clause_212 (by decide) ?_
                            refine lv_icmp_eq (tgt := 222) X.1 X.2.1 dX12_clause_214 (by decide) (fun c_134 => ?_) (fun c_134 => ?_)
                            · skip
                              have hE := ite_t hE c_134
                              have ho := ite_tP ho c_134
                              refine lv_aload_n X.1 X.2.1 dX12_clause_222 rfl (lv_at hl 2 rfl) ?_
                              refine lv_dup X.1 X.2.1 dX12_clause_223 rfl ?_
                              refine g12_3 X I (k := 123) (by decide) rfl lf_X12_115 dX12_clause_224 ?_
                              refine lv_iconst (v := 1) X.1 X.2.1 dX12_clause_227 (by decide) ?_
                              refine lv_iadd X.1 X.2.1 dX12_clause_228 ?_
                              refine p12_3 X I (k := 123) (by decide) rfl lf_X12_115 dX12_clause_229 (fun H locs I => ?_)
                              refine lv_aload_n X.1 X.2.1 dX12_clause_232 rfl (lv_at hl 2 rfl) ?_
                              refine g12_11 X I (k := 123) (by decide) rfl lf_X12_28 dX12_clause_233 ?_
                              refine lv_iload_n X.1 X.2.1 dX12_clause_236 rfl (lv_at hl 1 rfl) ?_
                              refine lv_aload_n X.1 X.2.1 dX12_clause_237 rfl (lv_at hl 2 rfl) ?_
                              refine g12_8 X I (k := 123) (by decide) rfl lf_X12_19 dX12_clause_238 ?_
                              refine lv_aload_n X.1 X.2.1 dX12_clause_241 rfl (lv_at hl 2 rfl) ?_
                              refine g12_14 X I (k := 123) (by decide) rfl lf_X12_125 dX12_clause_242 ?_
                              have ho373 := ho.1
                              have ho := ho.2
                              refine r_ald X I (k := 127) (n := 5) (by decide) rfl ho373 dX12_clause_245 ?_
                              have ho374 := ho.1
                              have ho := ho.2
                              refine r_ast X I (k := 130) (n := 700) (by decide) rfl ho374 dX12_clause_246 (fun H locs I => ?_)
                              refine lv_aload_n X.1 X.2.1 dX12_clause_247 rfl (lv_at hl 2 rfl) ?_
                              have ho375 := ho.1
                              have ho := ho.2
                              refine r_ev I (r_runV X I pk_X12_sum (c12_sumR l G _ _ ho375) lm_X12_155 (by decide) (cl_12 rfl) rfl rfl rfl hl.1 rfl (Nat.le_of_ble_eq_true rfl) dX12_clause_248 ⟨Nat.le_of_ble_eq_true rfl, Nat.le_of_ble_eq_true rfl⟩ ⟨Nat.le_refl 0, Nat.le_refl 0⟩) (fun H locs I => ?_)
                              refine lv_aload_n X.1 X.2.1 dX12_clause_251 rfl (lv_at hl 2 rfl) ?_
                              refine g12_12 X I (k := 123) (by decide) rfl lf_X12_31 dX12_clause_252 ?_
                              refine lv_iload_n X.1 X.2.1 dX12_clause_255 rfl (lv_at hl 1 rfl) ?_
                              refine lv_aload_n X.1 X.2.1 dX12_clause_256 rfl (lv_at hl 2 rfl) ?_
                              refine g12_8 X I (k := 123) (by decide) rfl lf_X12_19 dX12_clause_257 ?_
                              refine lv_aload_n X.1 X.2.1 dX12_clause_260 rfl (lv_at hl 2 rfl) ?_
                              refine g12_14 X I (k := 123) (by decide) rfl lf_X12_125 dX12_clause_261 ?_
                              have ho376 := ho.1
                              have ho := ho.2
                              refine r_ald X I (k := 127) (n := 5) (by decide) rfl ho376 dX12_clause_264 ?_
                              have ho377 := ho.1
                              have ho := ho.2
                              refine r_ast X I (k := 131) (n := 700) (by decide) rfl ho377 dX12_clause_265 (fun H locs I => ?_)
                              refine lv_aload_n X.1 X.2.1 dX12_clause_266 rfl (lv_at hl 2 rfl) ?_
                              refine g12_9 X I (k := 123) (by decide) rfl lf_X12_22 dX12_clause_267 ?_
                              refine lv_aload_n X.1 X.2.1 dX12_clause_270 rfl (lv_at hl 2 rfl) ?_
                              refine g12_14 X I (k := 123) (by decide) rfl lf_X12_125 dX12_clause_271 ?_
                              refine lv_dup2_11 X.1 X.2.1 dX12_clause_274 rfl rfl ?_
                              have ho378 := ho.1
                              have ho := ho.2
                              refine r_ald X I (k := 128) (n := 5) (by decide) rfl ho378 dX12_clause_275 ?_
                              refine lv_iconst (v := 1) X.1 X.2.1 dX12_clause_276 (by decide) ?_
                              refine lv_iadd X.1 X.2.1 dX12_clause_277 ?_
                              have ho379 := ho.1
                              have ho := ho.2
                              refine r_ast X I (k := 128) (n := 5) (by decide) rfl ho379 dX12_clause_278 (fun H locs I => ?_)
                              have h9 := hE
                              exact r_vret X I (e_v h9.symm rfl) dX12_clause_279
                            · skip
                              have hE := ite_f hE c_134
                              have ho := ite_fP ho c_134
                              refine lv_aload_n X.1 X.2.1 dX12_clause_217 rfl (lv_at hl 2 rfl) ?_
                              refine r_ev I (r_runV X I pk_X12_bad (c12_bad l G _ _) lm_X12_131 (by decide) (cl_12 rfl) rfl rfl rfl hl.1 rfl (Nat.le_of_ble_eq_true rfl) dX12_clause_218 ⟨Nat.le_of_ble_eq_true rfl, Nat.le_of_ble_eq_true rfl⟩ ⟨Nat.le_refl 0, Nat.le_refl 0⟩) (fun H locs I => ?_)
                              have h9 := hE
                              exact r_vret X I (e_v h9.symm rfl) dX12_clause_221
                · exact absurd c_124 (by decide)
              · skip
                have hE := ite_t hE c_123
                have ho := ite_tP ho c_123
                refine lv_iconst (v := 1) X.1 X.2.1 dX12_clause_123 (by decide) ?_
                refine lv_goto (tgt := 128) X.1 X.2.1 dX12_clause_124 (by decide) ?_
                refine lv_istore_n (lv' := [(2, .int _), (1, .int _), (0, .ref _)]) X.1 X.2.1 dX12_clause_128 rfl hl (by decide) rfl (fun ls hl => ?_)
                refine lv_iload_n X.1 X.2.1 dX12_clause_129 rfl (lv_at hl 0 rfl) ?_
                refine lv_if_eq (tgt := 140) X.1 X.2.1 dX12_clause_130 (by decide) (fun c_135 => ?_) (fun c_135 => ?_)
                · exact absurd c_135 (by decide)
                · skip
                  refine lv_aload_n X.1 X.2.1 dX12_clause_133 rfl (lv_at hl 2 rfl) ?_
                  have ho380 := ho.1
                  have ho := ho.2
                  refine r_ev I (r_runV X I pk_X12_condition (c12_conditionR l G _ _ ho380) lm_X12_174 (by decide) (cl_12 rfl) rfl rfl rfl hl.1 rfl (Nat.le_of_ble_eq_true rfl) dX12_clause_134 ⟨Nat.le_of_ble_eq_true rfl, Nat.le_of_ble_eq_true rfl⟩ ⟨Nat.le_refl 0, Nat.le_refl 0⟩) (fun H locs I => ?_)
                  refine lv_goto (tgt := 184) X.1 X.2.1 dX12_clause_137 (by decide) ?_
                  refine lv_aload_n X.1 X.2.1 dX12_clause_184 rfl (lv_at hl 2 rfl) ?_
                  refine g12_11 X I (k := 123) (by decide) rfl lf_X12_28 dX12_clause_185 ?_
                  refine lv_iload_n X.1 X.2.1 dX12_clause_188 rfl (lv_at hl 1 rfl) ?_
                  refine lv_aload_n X.1 X.2.1 dX12_clause_189 rfl (lv_at hl 2 rfl) ?_
                  refine g12_10 X I (k := 123) (by decide) rfl lf_X12_25 dX12_clause_190 ?_
                  refine lv_iload_n X.1 X.2.1 dX12_clause_193 rfl (lv_at hl 1 rfl) ?_
                  have ho381 := ho.1
                  have ho := ho.2
                  refine r_ald X I (k := 129) (n := 700) (by decide) rfl ho381 dX12_clause_194 ?_
                  have ho382 := ho.1
                  have ho := ho.2
                  refine r_ast X I (k := 130) (n := 700) (by decide) rfl ho382 dX12_clause_195 (fun H locs I => ?_)
                  refine lv_iload_n X.1 X.2.1 dX12_clause_196 rfl (lv_at hl 0 rfl) ?_
                  refine lv_if_eq (tgt := 251) X.1 X.2.1 dX12_clause_197 (by decide) (fun c_136 => ?_) (fun c_136 => ?_)
                  · exact absurd c_136 (by decide)
                  · skip
                    refine lv_aload_n X.1 X.2.1 dX12_clause_200 rfl (lv_at hl 2 rfl) ?_
                    refine g12_4 X I (k := 123) (by decide) rfl lf_X12_122 dX12_clause_201 ?_
                    refine lv_iconst (v := (-1)) X.1 X.2.1 dX12_clause_204 (by decide) ?_
                    refine lv_icmp_ne (tgt := 251) X.1 X.2.1 dX12_clause_205 (by decide) (fun c_137 => ?_) (fun c_137 => ?_)
                    · skip
                      have hE := ite_f hE c_137
                      have ho := ite_fP ho c_137
                      refine lv_aload_n X.1 X.2.1 dX12_clause_251 rfl (lv_at hl 2 rfl) ?_
                      refine g12_12 X I (k := 123) (by decide) rfl lf_X12_31 dX12_clause_252 ?_
                      refine lv_iload_n X.1 X.2.1 dX12_clause_255 rfl (lv_at hl 1 rfl) ?_
                      refine lv_aload_n X.1 X.2.1 dX12_clause_256 rfl (lv_at hl 2 rfl) ?_
                      refine g12_8 X I (k := 123) (by decide) rfl lf_X12_19 dX12_clause_257 ?_
                      refine lv_aload_n X.1 X.2.1 dX12_clause_260 rfl (lv_at hl 2 rfl) ?_
                      refine g12_14 X I (k := 123) (by decide) rfl lf_X12_125 dX12_clause_261 ?_
                      have ho383 := ho.1
                      have ho := ho.2
                      refine r_ald X I (k := 127) (n := 5) (by decide) rfl ho383 dX12_clause_264 ?_
                      have ho384 := ho.1
                      have ho := ho.2
                      refine r_ast X I (k := 131) (n := 700) (by decide) rfl ho384 dX12_clause_265 (fun H locs I => ?_)
                      refine lv_aload_n X.1 X.2.1 dX12_clause_266 rfl (lv_at hl 2 rfl) ?_
                      refine g12_9 X I (k := 123) (by decide) rfl lf_X12_22 dX12_clause_267 ?_
                      refine lv_aload_n X.1 X.2.1 dX12_clause_270 rfl (lv_at hl 2 rfl) ?_
                      refine g12_14 X I (k := 123) (by decide) rfl lf_X12_125 dX12_clause_271 ?_
                      refine lv_dup2_11 X.1 X.2.1 dX12_clause_274 rfl rfl ?_
                      have ho385 := ho.1
                      have ho := ho.2
                      refine r_ald X I (k := 128) (n := 5) (by decide) rfl ho385 dX12_clause_275 ?_
                      refine lv_iconst (v := 1) X.1 X.2.1 dX12_clause_276 (by decide) ?_
                      refine lv_iadd X.1 X.2.1 dX12_clause_277 ?_
                      have ho386 := ho.1
                      have ho := ho.2
                      refine r_ast X I (k := 128) (n := 5) (by decide) rfl ho386 dX12_clause_278 (fun H locs I => ?_)
                      have h9 := hE
                      exact r_vret X I (e_v h9.symm rfl) dX12_clause_279
                    · skip
                      have hE := ite_t hE c_137
                      have ho := ite_tP ho c_137
                      refine lv_aload_n X.1 X.2.1 dX12_clause_208 rfl (lv_at hl 2 rfl) ?_
                      have ho387 := ho.1
                      have ho := ho.2
                      refine r_ei I (r_runV X I pk_X12_look (c12_look l G _ _ ho387) lm_X12_134 (by decide) (cl_12 rfl) rfl rfl rfl hl.1 rfl (Nat.le_of_ble_eq_true rfl) dX12_clause_209 ⟨Nat.le_of_ble_eq_true rfl, Nat.le_of_ble_eq_true rfl⟩ ⟨Nat.le_refl 0, Nat.le_refl 0⟩) (fun H locs I => ?_)
                      refine lv_bipush (v := 63) X.1 X.2.1 dX12_clause_212 (by decide) ?_
                      refine lv_icmp_eq (tgt := 222) X.1 X.2.1 dX12_clause_214 (by decide) (fun c_138 => ?_) (fun c_138 => ?_)
                      · skip
                        have hE := ite_t hE c_138
                        have ho := ite_tP ho c_138
                        refine lv_aload_n X.1 X.2.1 dX12_clause_222 rfl (lv_at hl 2 rfl) ?_
                        refine lv_dup X.1 X.2.1 dX12_clause_223 rfl ?_
                        refine g12_3 X I (k := 123) (by decide) rfl lf_X12_115 dX12_clause_224 ?_
                        refine lv_iconst (v := 1) X.1 X.2.1 dX12_clause_227 (by decide) ?_
                        refine lv_iadd X.1 X.2.1 dX12_clause_228 ?_
                        refine p12_3 X I (k := 123) (by decide) rfl lf_X12_115 dX12_clause_229 (fun H locs I => ?_)
                        refine lv_aload_n X.1 X.2.1 dX12_clause_232 rfl (lv_at hl 2 rfl) ?_
                        refine g12_11 X I (k := 123) (by decide) rfl lf_X12_28 dX12_clause_233 ?_
                        refine lv_iload_n X.1 X.2.1 dX12_clause_236 rfl (lv_at hl 1 rfl) ?_
                        refine lv_aload_n X.1 X.2.1 dX12_clause_237 rfl (lv_at hl 2 rfl) ?_
                        refine g12_8 X I (k := 123) (by decide) rfl lf_X12_19 dX12_clause_238 ?_
                        refine lv_aload_n X.1 X.2.1 dX12_clause_241 rfl (lv_at hl 2 rfl) ?_
                        refine g12_14 X I (k := 123) (by decide) rfl lf_X12_125 dX12_clause_242 ?_
                        have ho388 := ho.1
                        have ho := ho.2
                        refine r_ald X I (k := 127) (n := 5) (by decide) rfl ho388 dX12_clause_245 ?_
                        have ho389 := ho.1
                        have ho := ho.2
                        refine r_ast X I (k := 130) (n := 700) (by decide) rfl ho389 dX12_clause_246 (fun H locs I => ?_)
                        refine lv_aload_n X.1 X.2.1 dX12_clause_247 rfl (lv_at hl 2 rfl) ?_
                        have ho390 := ho.1
                        have ho := ho.2
                        refine r_ev I (r_runV X I pk_X12_sum (c12_sumR l G _ _ ho390) lm_X12_155 (by decide) (cl_12 rfl) rfl rfl rfl hl.1 rfl (Nat.le_of_ble_eq_true rfl) dX12_clause_248 ⟨Nat.le_of_ble_eq_true rfl, Nat.le_of_ble_eq_true rfl⟩ ⟨Nat.le_refl 0, Nat.le_refl 0⟩) (fun H locs I => ?_)
                        refine lv_aload_n X.1 X.2.1 dX12_clause_251 rfl (lv_at hl 2 rfl) ?_
                        refine g12_12 X I (k := 123) (by decide) rfl lf_X12_31 dX12_clause_252 ?_
                        refine lv_iload_n X.1 X.2.1 dX12_clause_255 rfl (lv_at hl 1 rfl) ?_
                        refine lv_aload_n X.1 X.2.1 dX12_clause_256 rfl (lv_at hl 2 rfl) ?_
                        refine g12_8 X I (k := 123) (by decide) rfl lf_X12_19 dX12_clause_257 ?_
                        refine lv_aload_n X.1 X.2.1 dX12_clause_260 rfl (lv_at hl 2 rfl) ?_
                        refine g12_14 X I (k := 123) (by decide) rfl lf_X12_125 dX12_clause_261 ?_
                        have ho391 := ho.1
                        have ho := ho.2
                        refine r_ald X I (k := 127) (n := 5) (by decide) rfl ho391 dX12_clause_264 ?_
                        have ho392 := ho.1
                        have ho := ho.2
                        refine r_ast X I (k := 131) (n := 700) (by decide) rfl ho392 dX12_clause_265 (fun H locs I => ?_)
                        refine lv_aload_n X.1 X.2.1 dX12_clause_266 rfl (lv_at hl 2 rfl) ?_
                        refine g12_9 X I (k := 123) (by decide) rfl lf_X12_22 dX12_clause_267 ?_
                        refine lv_aload_n X.1 X.2.1 dX12_clause_270 rfl (lv_at hl 2 rfl) ?_
                        refine g12_14 X I (k := 123) (by decide) rfl lf_X12_125 dX12_clause_271 ?_
                        refine lv_dup2_11 X.1 X.2.1 dX12_clause_274 rfl rfl ?_
                        have ho393 := ho.1
                        have ho := ho.2
                        refine r_ald X I (k := 128) (n := 5) (by decide) rfl ho393 dX12_clause_275 ?_
                        refine lv_iconst (v := 1) X.1 X.2.1 dX12_clause_276 (by decide) ?_
                        refine lv_iadd X.1 X.2.1 dX12_clause_277 ?_
                        have ho394 := ho.1
                        have ho := ho.2
                        refine r_ast X I (k := 128) (n := 5) (by decide) rfl ho394 dX12_clause_278 (fun H locs I => ?_)
                        have h9 := hE
                        exact r_vret X I (e_v h9.symm rfl) dX12_clause_279
                      · skip
                        have hE := ite_f hE c_138
                        have ho := ite_fP ho c_138
                        refine lv_aload_n X.1 X.2.1 dX12_clause_217 rfl (lv_at hl 2 rfl) ?_
                        refine r_ev I (r_runV X I pk_X12_bad (c12_bad l G _ _) lm_X12_131 (by decide) (cl_12 rfl) rfl rfl rfl hl.1 rfl (Nat.le_of_ble_eq_true rfl) dX12_clause_218 ⟨Nat.le_of_ble_eq_true rfl, Nat.le_of_ble_eq_true rfl⟩ ⟨Nat.le_refl 0, Nat.le_refl 0⟩) (fun H locs I => ?_)
                        have h9 := hE
                        exact r_vret X I (e_v h9.symm rfl) dX12_clause_221
          · skip
            have hE := ite_f hE c_117
            have ho := ite_fP ho c_117
            have h9 := hE
            exact r_vret X I (e_v h9.symm rfl) dX12_clause_89
    · skip
      have hE := ite_f hE c_70
      have ho := ite_fP ho c_70
      refine lv_aload_n X.1 X.2.1 dX12_clause_36 rfl (lv_at hl 1 rfl) ?_
      refine r_ev I (r_runV X I pk_X12_bad (c12_bad l G _ _) lm_X12_131 (by decide) (cl_12 rfl) rfl rfl rfl hl.1 rfl (Nat.le_of_ble_eq_true rfl) dX12_clause_37 ⟨Nat.le_of_ble_eq_true rfl, Nat.le_of_ble_eq_true rfl⟩ ⟨Nat.le_refl 0, Nat.le_refl 0⟩) (fun H locs I => ?_)
      refine lv_aload_n X.1 X.2.1 dX12_clause_40 rfl (lv_at hl 1 rfl) ?_
      refine lv_dup X.1 X.2.1 dX12_clause_41 rfl ?_
      refine g12_3 X I (k := 123) (by decide) rfl lf_X12_115 dX12_clause_42 ?_
      refine lv_iconst (v := 1) X.1 X.2.1 dX12_clause_45 (by decide) ?_
      refine lv_iadd X.1 X.2.1 dX12_clause_46 ?_
      refine p12_3 X I (k := 123) (by decide) rfl lf_X12_115 dX12_clause_47 (fun H locs I => ?_)
      refine lv_aload_n X.1 X.2.1 dX12_clause_50 rfl (lv_at hl 1 rfl) ?_
      refine g12_4 X I (k := 123) (by decide) rfl lf_X12_122 dX12_clause_51 ?_
      refine lv_iconst (v := (-1)) X.1 X.2.1 dX12_clause_54 (by decide) ?_
      refine lv_icmp_ne (tgt := 71) X.1 X.2.1 dX12_clause_55 (by decide) (fun c_139 => ?_) (fun c_139 => ?_)
      · skip
        have hE := ite_f hE c_139
        have ho := ite_fP ho c_139
        refine lv_aload_n X.1 X.2.1 dX12_clause_71 rfl (lv_at hl 1 rfl) ?_
        refine lv_dup X.1 X.2.1 dX12_clause_72 rfl ?_
        refine g12_3 X I (k := 123) (by decide) rfl lf_X12_115 dX12_clause_73 ?_
        refine lv_iconst (v := 1) X.1 X.2.1 dX12_clause_76 (by decide) ?_
        refine lv_iadd X.1 X.2.1 dX12_clause_77 ?_
        refine p12_3 X I (k := 123) (by decide) rfl lf_X12_115 dX12_clause_78 (fun H locs I => ?_)
        refine lv_aload_n X.1 X.2.1 dX12_clause_81 rfl (lv_at hl 1 rfl) ?_
        refine g12_4 X I (k := 123) (by decide) rfl lf_X12_122 dX12_clause_82 ?_
        refine lv_iconst (v := (-1)) X.1 X.2.1 dX12_clause_85 (by decide) ?_
        refine lv_icmp_eq (tgt := 90) X.1 X.2.1 dX12_clause_86 (by decide) (fun c_140 => ?_) (fun c_140 => ?_)
        · skip
          have hE := ite_t hE c_140
          have ho := ite_tP ho c_140
          refine lv_aload_n X.1 X.2.1 dX12_clause_90 rfl (lv_at hl 1 rfl) ?_
          refine g12_10 X I (k := 123) (by decide) rfl lf_X12_25 dX12_clause_91 ?_
          refine lv_iload_n X.1 X.2.1 dX12_clause_94 rfl (lv_at hl 0 rfl) ?_
          refine lv_aload_n X.1 X.2.1 dX12_clause_95 rfl (lv_at hl 1 rfl) ?_
          refine g12_8 X I (k := 123) (by decide) rfl lf_X12_19 dX12_clause_96 ?_
          refine lv_aload_n X.1 X.2.1 dX12_clause_99 rfl (lv_at hl 1 rfl) ?_
          refine g12_14 X I (k := 123) (by decide) rfl lf_X12_125 dX12_clause_100 ?_
          have ho395 := ho.1
          have ho := ho.2
          refine r_ald X I (k := 127) (n := 5) (by decide) rfl ho395 dX12_clause_103 ?_
          have ho396 := ho.1
          have ho := ho.2
          refine r_ast X I (k := 129) (n := 700) (by decide) rfl ho396 dX12_clause_104 (fun H locs I => ?_)
          refine lv_aload_n X.1 X.2.1 dX12_clause_105 rfl (lv_at hl 1 rfl) ?_
          have ho397 := ho.1
          have ho := ho.2
          refine r_ei I (r_runV X I pk_X12_look (c12_look l G _ _ ho397) lm_X12_134 (by decide) (cl_12 rfl) rfl rfl rfl hl.1 rfl (Nat.le_of_ble_eq_true rfl) dX12_clause_106 ⟨Nat.le_of_ble_eq_true rfl, Nat.le_of_ble_eq_true rfl⟩ ⟨Nat.le_refl 0, Nat.le_refl 0⟩) (fun H locs I => ?_)
          refine lv_bipush (v := 33) X.1 X.2.1 dX12_clause_109 (by decide) ?_
          refine lv_icmp_eq (tgt := 123) X.1 X.2.1 dX12_clause_111 (by decide) (fun c_141 => ?_) (fun c_141 => ?_)
          · skip
            have hE := ite_t hE c_141
            have ho := ite_tP ho c_141
            refine lv_iconst (v := 1) X.1 X.2.1 dX12_clause_123 (by decide) ?_
            refine lv_goto (tgt := 128) X.1 X.2.1 dX12_clause_124 (by decide) ?_
            refine lv_istore_n (lv' := [(2, .int _), (1, .int _), (0, .ref _)]) X.1 X.2.1 dX12_clause_128 rfl hl (by decide) rfl (fun ls hl => ?_)
            refine lv_iload_n X.1 X.2.1 dX12_clause_129 rfl (lv_at hl 0 rfl) ?_
            refine lv_if_eq (tgt := 140) X.1 X.2.1 dX12_clause_130 (by decide) (fun c_142 => ?_) (fun c_142 => ?_)
            · exact absurd c_142 (by decide)
            · skip
              refine lv_aload_n X.1 X.2.1 dX12_clause_133 rfl (lv_at hl 2 rfl) ?_
              have ho398 := ho.1
              have ho := ho.2
              refine r_ev I (r_runV X I pk_X12_condition (c12_conditionR l G _ _ ho398) lm_X12_174 (by decide) (cl_12 rfl) rfl rfl rfl hl.1 rfl (Nat.le_of_ble_eq_true rfl) dX12_clause_134 ⟨Nat.le_of_ble_eq_true rfl, Nat.le_of_ble_eq_true rfl⟩ ⟨Nat.le_refl 0, Nat.le_refl 0⟩) (fun H locs I => ?_)
              refine lv_goto (tgt := 184) X.1 X.2.1 dX12_clause_137 (by decide) ?_
              refine lv_aload_n X.1 X.2.1 dX12_clause_184 rfl (lv_at hl 2 rfl) ?_
              refine g12_11 X I (k := 123) (by decide) rfl lf_X12_28 dX12_clause_185 ?_
              refine lv_iload_n X.1 X.2.1 dX12_clause_188 rfl (lv_at hl 1 rfl) ?_
              refine lv_aload_n X.1 X.2.1 dX12_clause_189 rfl (lv_at hl 2 rfl) ?_
              refine g12_10 X I (k := 123) (by decide) rfl lf_X12_25 dX12_clause_190 ?_
              refine lv_iload_n X.1 X.2.1 dX12_clause_193 rfl (lv_at hl 1 rfl) ?_
              have ho399 := ho.1
              have ho := ho.2
              refine r_ald X I (k := 129) (n := 700) (by decide) rfl ho399 dX12_clause_194 ?_
              have ho400 := ho.1
              have ho := ho.2
              refine r_ast X I (k := 130) (n := 700) (by decide) rfl ho400 dX12_clause_195 (fun H locs I => ?_)
              refine lv_iload_n X.1 X.2.1 dX12_clause_196 rfl (lv_at hl 0 rfl) ?_
              refine lv_if_eq (tgt := 251) X.1 X.2.1 dX12_clause_197 (by decide) (fun c_143 => ?_) (fun c_143 => ?_)
              · exact absurd c_143 (by decide)
              · skip
                refine lv_aload_n X.1 X.2.1 dX12_clause_200 rfl (lv_at hl 2 rfl) ?_
                refine g12_4 X I (k := 123) (by decide) rfl lf_X12_122 dX12_clause_201 ?_
                refine lv_iconst (v := (-1)) X.1 X.2.1 dX12_clause_204 (by decide) ?_
                refine lv_icmp_ne (tgt := 251) X.1 X.2.1 dX12_clause_205 (by decide) (fun c_144 => ?_) (fun c_144 => ?_)
                · skip
                  have hE := ite_f hE c_144
                  have ho := ite_fP ho c_144
                  refine lv_aload_n X.1 X.2.1 dX12_clause_251 rfl (lv_at hl 2 rfl) ?_
                  refine g12_12 X I (k := 123) (by decide) rfl lf_X12_31 dX12_clause_252 ?_
                  refine lv_iload_n X.1 X.2.1 dX12_clause_255 rfl (lv_at hl 1 rfl) ?_
                  refine lv_aload_n X.1 X.2.1 dX12_clause_256 rfl (lv_at hl 2 rfl) ?_
                  refine g12_8 X I (k := 123) (by decide) rfl lf_X12_19 dX12_clause_257 ?_
                  refine lv_aload_n X.1 X.2.1 dX12_clause_260 rfl (lv_at hl 2 rfl) ?_
                  refine g12_14 X I (k := 123) (by decide) rfl lf_X12_125 dX12_clause_261 ?_
                  have ho401 := ho.1
                  have ho := ho.2
                  refine r_ald X I (k := 127) (n := 5) (by decide) rfl ho401 dX12_clause_264 ?_
                  have ho402 := ho.1
                  have ho := ho.2
                  refine r_ast X I (k := 131) (n := 700) (by decide) rfl ho402 dX12_clause_265 (fun H locs I => ?_)
                  refine lv_aload_n X.1 X.2.1 dX12_clause_266 rfl (lv_at hl 2 rfl) ?_
                  refine g12_9 X I (k := 123) (by decide) rfl lf_X12_22 dX12_clause_267 ?_
                  refine lv_aload_n X.1 X.2.1 dX12_clause_270 rfl (lv_at hl 2 rfl) ?_
                  refine g12_14 X I (k := 123) (by decide) rfl lf_X12_125 dX12_clause_271 ?_
                  refine lv_dup2_11 X.1 X.2.1 dX12_clause_274 rfl rfl ?_
                  have ho403 := ho.1
                  have ho := ho.2
                  refine r_ald X I (k := 128) (n := 5) (by decide) rfl ho403 dX12_clause_275 ?_
                  refine lv_iconst (v := 1) X.1 X.2.1 dX12_clause_276 (by decide) ?_
                  refine lv_iadd X.1 X.2.1 dX12_clause_277 ?_
                  have ho404 := ho.1
                  have ho := ho.2
                  refine r_ast X I (k := 128) (n := 5) (by decide) rfl ho404 dX12_clause_278 (fun H locs I => ?_)
                  have h9 := hE
                  exact r_vret X I (e_v h9.symm rfl) dX12_clause_279
                · skip
                  have hE := ite_t hE c_144
                  have ho := ite_tP ho c_144
                  refine lv_aload_n X.1 X.2.1 dX12_clause_208 rfl (lv_at hl 2 rfl) ?_
                  have ho405 := ho.1
                  have ho := ho.2
                  refine r_ei I (r_runV X I pk_X12_look (c12_look l G _ _ ho405) lm_X12_134 (by decide) (cl_12 rfl) rfl rfl rfl hl.1 rfl (Nat.le_of_ble_eq_true rfl) dX12_clause_209 ⟨Nat.le_of_ble_eq_true rfl, Nat.le_of_ble_eq_true rfl⟩ ⟨Nat.le_refl 0, Nat.le_refl 0⟩) (fun H locs I => ?_)
                  refine lv_bipush (v := 63) X.1 X.2.1 dX12_clause_212 (by decide) ?_
                  refine lv_icmp_eq (tgt := 222) X.1 X.2.1 dX12_clause_214 (by decide) (fun c_145 => ?_) (fun c_145 => ?_)
                  · skip
                    have hE := ite_t hE c_145
                    have ho := ite_tP ho c_145
                    refine lv_aload_n X.1 X.2.1 dX12_clause_222 rfl (lv_at hl 2 rfl) ?_
                    refine lv_dup X.1 X.2.1 dX12_clause_223 rfl ?_
                    refine g12_3 X I (k := 123) (by decide) rfl lf_X12_115 dX12_clause_224 ?_
                    refine lv_iconst (v := 1) X.1 X.2.1 dX12_clause_227 (by decide) ?_
                    refine lv_iadd X.1 X.2.1 dX12_clause_228 ?_
                    refine p12_3 X I (k := 123) (by decide) rfl lf_X12_115 dX12_clause_229 (fun H locs I => ?_)
                    refine lv_aload_n X.1 X.2.1 dX12_clause_232 rfl (lv_at hl 2 rfl) ?_
                    refine g12_11 X I (k := 123) (by decide) rfl lf_X12_28 dX12_clause_233 ?_
                    refine lv_iload_n X.1 X.2.1 dX12_clause_236 rfl (lv_at hl 1 rfl) ?_
                    refine lv_aload_n X.1 X.2.1 dX12_clause_237 rfl (lv_at hl 2 rfl) ?_
                    refine g12_8 X I (k := 123) (by decide) rfl lf_X12_19 dX12_clause_238 ?_
                    refine lv_aload_n X.1 X.2.1 dX12_clause_241 rfl (lv_at hl 2 rfl) ?_
                    refine g12_14 X I (k := 123) (by decide) rfl lf_X12_125 dX12_clause_242 ?_
                    have ho406 := ho.1
                    have ho := ho.2
                    refine r_ald X I (k := 127) (n := 5) (by decide) rfl ho406 dX12_clause_245 ?_
                    have ho407 := ho.1
                    have ho := ho.2
                    refine r_ast X I (k := 130) (n := 700) (by decide) rfl ho407 dX12_clause_246 (fun H locs I => ?_)
                    refine lv_aload_n X.1 X.2.1 dX12_clause_247 rfl (lv_at hl 2 rfl) ?_
                    have ho408 := ho.1
                    have ho := ho.2
                    refine r_ev I (r_runV X I pk_X12_sum (c12_sumR l G _ _ ho408) lm_X12_155 (by decide) (cl_12 rfl) rfl rfl rfl hl.1 rfl (Nat.le_of_ble_eq_true rfl) dX12_clause_248 ⟨Nat.le_of_ble_eq_true rfl, Nat.le_of_ble_eq_true rfl⟩ ⟨Nat.le_refl 0, Nat.le_refl 0⟩) (fun H locs I => ?_)
                    refine lv_aload_n X.1 X.2.1 dX12_clause_251 rfl (lv_at hl 2 rfl) ?_
                    refine g12_12 X I (k := 123) (by decide) rfl lf_X12_31 dX12_clause_252 ?_
                    refine lv_iload_n X.1 X.2.1 dX12_clause_255 rfl (lv_at hl 1 rfl) ?_
                    refine lv_aload_n X.1 X.2.1 dX12_clause_256 rfl (lv_at hl 2 rfl) ?_
                    refine g12_8 X I (k := 123) (by decide) rfl lf_X12_19 dX12_clause_257 ?_
                    refine lv_aload_n X.1 X.2.1 dX12_clause_260 rfl (lv_at hl 2 rfl) ?_
                    refine g12_14 X I (k := 123) (by decide) rfl lf_X12_125 dX12_clause_261 ?_
                    have ho409 := ho.1
                    have ho := ho.2
                    refine r_ald X I (k := 127) (n := 5) (by decide) rfl ho409 dX12_clause_264 ?_
                    have ho410 := ho.1
                    have ho := ho.2
                    refine r_ast X I (k := 131) (n := 700) (by decide) rfl ho410 dX12_clause_265 (fun H locs I => ?_)
                    refine lv_aload_n X.1 X.2.1 dX12_clause_266 rfl (lv_at hl 2 rfl) ?_
                    refine g12_9 X I (k := 123) (by decide) rfl lf_X12_22 dX12_clause_267 ?_
                    refine lv_aload_n X.1 X.2.1 dX12_clause_270 rfl (lv_at hl 2 rfl) ?_
                    refine g12_14 X I (k := 123) (by decide) rfl lf_X12_125 dX12_clause_271 ?_
                    refine lv_dup2_11 X.1 X.2.1 dX12_clause_274 rfl rfl ?_
                    have ho411 := ho.1
                    have ho := ho.2
                    refine r_ald X I (k := 128) (n := 5) (by decide) rfl ho411 dX12_clause_275 ?_
                    refine lv_iconst (v := 1) X.1 X.2.1 dX12_clause_276 (by decide) ?_
                    refine lv_iadd X.1 X.2.1 dX12_clause_277 ?_
                    have ho412 := ho.1
                    have ho := ho.2
                    refine r_ast X I (k := 128) (n := 5) (by decide) rfl ho412 dX12_clause_278 (fun H locs I => ?_)
                    have h9 := hE
                    exact r_vret X I (e_v h9.symm rfl) dX12_clause_279
                  · skip
                    have hE := ite_f hE c_145
                    have ho := ite_fP ho c_145
                    refine lv_aload_n X.1 X.2.1 dX12_clause_217 rfl (lv_at hl 2 rfl) ?_
                    refine r_ev I (r_runV X I pk_X12_bad (c12_bad l G _ _) lm_X12_131 (by decide) (cl_12 rfl) rfl rfl rfl hl.1 rfl (Nat.le_of_ble_eq_true rfl) dX12_clause_218 ⟨Nat.le_of_ble_eq_true rfl, Nat.le_of_ble_eq_true rfl⟩ ⟨Nat.le_refl 0, Nat.le_refl 0⟩) (fun H locs I => ?_)
                    have h9 := hE
                    exact r_vret X I (e_v h9.symm rfl) dX12_clause_221
          · skip
            have hE := ite_f hE c_141
            have ho := ite_fP ho c_141
            refine lv_aload_n X.1 X.2.1 dX12_clause_114 rfl (lv_at hl 1 rfl) ?_
            have ho413 := ho.1
            have ho := ho.2
            refine r_ei I (r_runV X I pk_X12_look (c12_look l G _ _ ho413) lm_X12_134 (by decide) (cl_12 rfl) rfl rfl rfl hl.1 rfl (Nat.le_of_ble_eq_true rfl) dX12_clause_115 ⟨Nat.le_of_ble_eq_true rfl, Nat.le_of_ble_eq_true rfl⟩ ⟨Nat.le_refl 0, Nat.le_refl 0⟩) (fun H locs I => ?_)
            refine lv_bipush (v := 40) X.1 X.2.1 dX12_clause_118 (by decide) ?_
            refine lv_icmp_ne (tgt := 127) X.1 X.2.1 dX12_clause_120 (by decide) (fun c_146 => ?_) (fun c_146 => ?_)
            · skip
              have hE := ite_f hE c_146
              have ho := ite_fP ho c_146
              refine lv_iconst (v := 0) X.1 X.2.1 dX12_clause_127 (by decide) ?_
              refine lv_istore_n (lv' := [(2, .int _), (1, .int _), (0, .ref _)]) X.1 X.2.1 dX12_clause_128 rfl hl (by decide) rfl (fun ls hl => ?_)
              refine lv_iload_n X.1 X.2.1 dX12_clause_129 rfl (lv_at hl 0 rfl) ?_
              refine lv_if_eq (tgt := 140) X.1 X.2.1 dX12_clause_130 (by decide) (fun c_147 => ?_) (fun c_147 => ?_)
              · skip
                refine lv_aload_n X.1 X.2.1 dX12_clause_140 rfl (lv_at hl 2 rfl) ?_
                have ho414 := ho.1
                have ho := ho.2
                refine r_ev I (r_runV X I pk_X12_sum (c12_sumR l G _ _ ho414) lm_X12_155 (by decide) (cl_12 rfl) rfl rfl rfl hl.1 rfl (Nat.le_of_ble_eq_true rfl) dX12_clause_141 ⟨Nat.le_of_ble_eq_true rfl, Nat.le_of_ble_eq_true rfl⟩ ⟨Nat.le_refl 0, Nat.le_refl 0⟩) (fun H locs I => ?_)
                refine lv_aload_n X.1 X.2.1 dX12_clause_144 rfl (lv_at hl 2 rfl) ?_
                refine g12_4 X I (k := 123) (by decide) rfl lf_X12_122 dX12_clause_145 ?_
                refine lv_iconst (v := (-1)) X.1 X.2.1 dX12_clause_148 (by decide) ?_
                refine lv_icmp_ne (tgt := 166) X.1 X.2.1 dX12_clause_149 (by decide) (fun c_148 => ?_) (fun c_148 => ?_)
                · skip
                  have hE := ite_f hE c_148
                  have ho := ite_fP ho c_148
                  refine lv_iconst (v := 0) X.1 X.2.1 dX12_clause_166 (by decide) ?_
                  refine lv_istore_n (lv' := [(2, .int _), (1, .int _), (0, .ref _)]) X.1 X.2.1 dX12_clause_167 rfl hl (by decide) rfl (fun ls hl => ?_)
                  refine lv_iload_n X.1 X.2.1 dX12_clause_168 rfl (lv_at hl 0 rfl) ?_
                  refine lv_if_eq (tgt := 184) X.1 X.2.1 dX12_clause_169 (by decide) (fun c_149 => ?_) (fun c_149 => ?_)
                  · skip
                    refine lv_aload_n X.1 X.2.1 dX12_clause_184 rfl (lv_at hl 2 rfl) ?_
                    refine g12_11 X I (k := 123) (by decide) rfl lf_X12_28 dX12_clause_185 ?_
                    refine lv_iload_n X.1 X.2.1 dX12_clause_188 rfl (lv_at hl 1 rfl) ?_
                    refine lv_aload_n X.1 X.2.1 dX12_clause_189 rfl (lv_at hl 2 rfl) ?_
                    refine g12_10 X I (k := 123) (by decide) rfl lf_X12_25 dX12_clause_190 ?_
                    refine lv_iload_n X.1 X.2.1 dX12_clause_193 rfl (lv_at hl 1 rfl) ?_
                    have ho415 := ho.1
                    have ho := ho.2
                    refine r_ald X I (k := 129) (n := 700) (by decide) rfl ho415 dX12_clause_194 ?_
                    have ho416 := ho.1
                    have ho := ho.2
                    refine r_ast X I (k := 130) (n := 700) (by decide) rfl ho416 dX12_clause_195 (fun H locs I => ?_)
                    refine lv_iload_n X.1 X.2.1 dX12_clause_196 rfl (lv_at hl 0 rfl) ?_
                    refine lv_if_eq (tgt := 251) X.1 X.2.1 dX12_clause_197 (by decide) (fun c_150 => ?_) (fun c_150 => ?_)
                    · skip
                      refine lv_aload_n X.1 X.2.1 dX12_clause_251 rfl (lv_at hl 2 rfl) ?_
                      refine g12_12 X I (k := 123) (by decide) rfl lf_X12_31 dX12_clause_252 ?_
                      refine lv_iload_n X.1 X.2.1 dX12_clause_255 rfl (lv_at hl 1 rfl) ?_
                      refine lv_aload_n X.1 X.2.1 dX12_clause_256 rfl (lv_at hl 2 rfl) ?_
                      refine g12_8 X I (k := 123) (by decide) rfl lf_X12_19 dX12_clause_257 ?_
                      refine lv_aload_n X.1 X.2.1 dX12_clause_260 rfl (lv_at hl 2 rfl) ?_
                      refine g12_14 X I (k := 123) (by decide) rfl lf_X12_125 dX12_clause_261 ?_
                      have ho417 := ho.1
                      have ho := ho.2
                      refine r_ald X I (k := 127) (n := 5) (by decide) rfl ho417 dX12_clause_264 ?_
                      have ho418 := ho.1
                      have ho := ho.2
                      refine r_ast X I (k := 131) (n := 700) (by decide) rfl ho418 dX12_clause_265 (fun H locs I => ?_)
                      refine lv_aload_n X.1 X.2.1 dX12_clause_266 rfl (lv_at hl 2 rfl) ?_
                      refine g12_9 X I (k := 123) (by decide) rfl lf_X12_22 dX12_clause_267 ?_
                      refine lv_aload_n X.1 X.2.1 dX12_clause_270 rfl (lv_at hl 2 rfl) ?_
                      refine g12_14 X I (k := 123) (by decide) rfl lf_X12_125 dX12_clause_271 ?_
                      refine lv_dup2_11 X.1 X.2.1 dX12_clause_274 rfl rfl ?_
                      have ho419 := ho.1
                      have ho := ho.2
                      refine r_ald X I (k := 128) (n := 5) (by decide) rfl ho419 dX12_clause_275 ?_
                      refine lv_iconst (v := 1) X.1 X.2.1 dX12_clause_276 (by decide) ?_
                      refine lv_iadd X.1 X.2.1 dX12_clause_277 ?_
                      have ho420 := ho.1
                      have ho := ho.2
                      refine r_ast X I (k := 128) (n := 5) (by decide) rfl ho420 dX12_clause_278 (fun H locs I => ?_)
                      have h9 := hE
                      exact r_vret X I (e_v h9.symm rfl) dX12_clause_279
                    · exact absurd c_150 (by decide)
                  · exact absurd c_149 (by decide)
                · skip
                  have hE := ite_t hE c_148
                  have ho := ite_tP ho c_148
                  refine lv_aload_n X.1 X.2.1 dX12_clause_152 rfl (lv_at hl 2 rfl) ?_
                  have ho421 := ho.1
                  have ho := ho.2
                  refine r_ei I (r_runV X I pk_X12_look (c12_look l G _ _ ho421) lm_X12_134 (by decide) (cl_12 rfl) rfl rfl rfl hl.1 rfl (Nat.le_of_ble_eq_true rfl) dX12_clause_153 ⟨Nat.le_of_ble_eq_true rfl, Nat.le_of_ble_eq_true rfl⟩ ⟨Nat.le_refl 0, Nat.le_refl 0⟩) (fun H locs I => ?_)
                  refine r_ei I (r_runS X I pk_X12_isSign (c12_isSign l G _ _ _) lm_X12_168 rfl hl.1 rfl (Nat.le_of_ble_eq_true rfl) dX12_clause_156 ⟨Nat.le_of_ble_eq_true rfl, Nat.le_of_ble_eq_true rfl⟩ ⟨Nat.le_refl 0, Nat.le_refl 0⟩) (fun H locs I => ?_)
                  refine lv_if_eq (tgt := 166) X.1 X.2.1 dX12_clause_159 (by decide) (fun c_151 => ?_) (fun c_151 => ?_)
                  · skip
                    have hE := ite_f hE (b2i_n c_151)
                    have ho := ite_fP ho (b2i_n c_151)
                    refine lv_iconst (v := 0) X.1 X.2.1 dX12_clause_166 (by decide) ?_
                    refine lv_istore_n (lv' := [(2, .int _), (1, .int _), (0, .ref _)]) X.1 X.2.1 dX12_clause_167 rfl hl (by decide) rfl (fun ls hl => ?_)
                    refine lv_iload_n X.1 X.2.1 dX12_clause_168 rfl (lv_at hl 0 rfl) ?_
                    refine lv_if_eq (tgt := 184) X.1 X.2.1 dX12_clause_169 (by decide) (fun c_152 => ?_) (fun c_152 => ?_)
                    · skip
                      refine lv_aload_n X.1 X.2.1 dX12_clause_184 rfl (lv_at hl 2 rfl) ?_
                      refine g12_11 X I (k := 123) (by decide) rfl lf_X12_28 dX12_clause_185 ?_
                      refine lv_iload_n X.1 X.2.1 dX12_clause_188 rfl (lv_at hl 1 rfl) ?_
                      refine lv_aload_n X.1 X.2.1 dX12_clause_189 rfl (lv_at hl 2 rfl) ?_
                      refine g12_10 X I (k := 123) (by decide) rfl lf_X12_25 dX12_clause_190 ?_
                      refine lv_iload_n X.1 X.2.1 dX12_clause_193 rfl (lv_at hl 1 rfl) ?_
                      have ho422 := ho.1
                      have ho := ho.2
                      refine r_ald X I (k := 129) (n := 700) (by decide) rfl ho422 dX12_clause_194 ?_
                      have ho423 := ho.1
                      have ho := ho.2
                      refine r_ast X I (k := 130) (n := 700) (by decide) rfl ho423 dX12_clause_195 (fun H locs I => ?_)
                      refine lv_iload_n X.1 X.2.1 dX12_clause_196 rfl (lv_at hl 0 rfl) ?_
                      refine lv_if_eq (tgt := 251) X.1 X.2.1 dX12_clause_197 (by decide) (fun c_153 => ?_) (fun c_153 => ?_)
                      · skip
                        refine lv_aload_n X.1 X.2.1 dX12_clause_251 rfl (lv_at hl 2 rfl) ?_
                        refine g12_12 X I (k := 123) (by decide) rfl lf_X12_31 dX12_clause_252 ?_
                        refine lv_iload_n X.1 X.2.1 dX12_clause_255 rfl (lv_at hl 1 rfl) ?_
                        refine lv_aload_n X.1 X.2.1 dX12_clause_256 rfl (lv_at hl 2 rfl) ?_
                        refine g12_8 X I (k := 123) (by decide) rfl lf_X12_19 dX12_clause_257 ?_
                        refine lv_aload_n X.1 X.2.1 dX12_clause_260 rfl (lv_at hl 2 rfl) ?_
                        refine g12_14 X I (k := 123) (by decide) rfl lf_X12_125 dX12_clause_261 ?_
                        have ho424 := ho.1
                        have ho := ho.2
                        refine r_ald X I (k := 127) (n := 5) (by decide) rfl ho424 dX12_clause_264 ?_
                        have ho425 := ho.1
                        have ho := ho.2
                        refine r_ast X I (k := 131) (n := 700) (by decide) rfl ho425 dX12_clause_265 (fun H locs I => ?_)
                        refine lv_aload_n X.1 X.2.1 dX12_clause_266 rfl (lv_at hl 2 rfl) ?_
                        refine g12_9 X I (k := 123) (by decide) rfl lf_X12_22 dX12_clause_267 ?_
                        refine lv_aload_n X.1 X.2.1 dX12_clause_270 rfl (lv_at hl 2 rfl) ?_
                        refine g12_14 X I (k := 123) (by decide) rfl lf_X12_125 dX12_clause_271 ?_
                        refine lv_dup2_11 X.1 X.2.1 dX12_clause_274 rfl rfl ?_
                        have ho426 := ho.1
                        have ho := ho.2
                        refine r_ald X I (k := 128) (n := 5) (by decide) rfl ho426 dX12_clause_275 ?_
                        refine lv_iconst (v := 1) X.1 X.2.1 dX12_clause_276 (by decide) ?_
                        refine lv_iadd X.1 X.2.1 dX12_clause_277 ?_
                        have ho427 := ho.1
                        have ho := ho.2
                        refine r_ast X I (k := 128) (n := 5) (by decide) rfl ho427 dX12_clause_278 (fun H locs I => ?_)
                        have h9 := hE
                        exact r_vret X I (e_v h9.symm rfl) dX12_clause_279
                      · exact absurd c_153 (by decide)
                    · exact absurd c_152 (by decide)
                  · skip
                    have hE := ite_t hE (b2i_y c_151)
                    have ho := ite_tP ho (b2i_y c_151)
                    refine lv_iconst (v := 1) X.1 X.2.1 dX12_clause_162 (by decide) ?_
                    refine lv_goto (tgt := 167) X.1 X.2.1 dX12_clause_163 (by decide) ?_
                    refine lv_istore_n (lv' := [(2, .int _), (1, .int _), (0, .ref _)]) X.1 X.2.1 dX12_clause_167 rfl hl (by decide) rfl (fun ls hl => ?_)
                    refine lv_iload_n X.1 X.2.1 dX12_clause_168 rfl (lv_at hl 0 rfl) ?_
                    refine lv_if_eq (tgt := 184) X.1 X.2.1 dX12_clause_169 (by decide) (fun c_154 => ?_) (fun c_154 => ?_)
                    · exact absurd c_154 (by decide)
                    · skip
                      refine lv_aload_n X.1 X.2.1 dX12_clause_172 rfl (lv_at hl 2 rfl) ?_
                      have ho428 := ho.1
                      have ho := ho.2
                      refine r_ev I (r_runV X I pk_X12_compare (c12_compare l G _ _ ho428) lm_X12_177 (by decide) (cl_12 rfl) rfl rfl rfl hl.1 rfl (Nat.le_of_ble_eq_true rfl) dX12_clause_173 ⟨Nat.le_of_ble_eq_true rfl, Nat.le_of_ble_eq_true rfl⟩ ⟨Nat.le_refl 0, Nat.le_refl 0⟩) (fun H locs I => ?_)
                      refine lv_aload_n X.1 X.2.1 dX12_clause_176 rfl (lv_at hl 2 rfl) ?_
                      have ho429 := ho.1
                      have ho := ho.2
                      refine r_ev I (r_runV X I pk_X12_goOnAnd (c12_goOnAndR l G _ _ ho429) lm_X12_180 (by decide) (cl_12 rfl) rfl rfl rfl hl.1 rfl (Nat.le_of_ble_eq_true rfl) dX12_clause_177 ⟨Nat.le_of_ble_eq_true rfl, Nat.le_of_ble_eq_true rfl⟩ ⟨Nat.le_refl 0, Nat.le_refl 0⟩) (fun H locs I => ?_)
                      refine lv_aload_n X.1 X.2.1 dX12_clause_180 rfl (lv_at hl 2 rfl) ?_
                      have ho430 := ho.1
                      have ho := ho.2
                      refine r_ev I (r_runV X I pk_X12_goOnOr (c12_goOnOrR l G _ _ ho430) lm_X12_183 (by decide) (cl_12 rfl) rfl rfl rfl hl.1 rfl (Nat.le_of_ble_eq_true rfl) dX12_clause_181 ⟨Nat.le_of_ble_eq_true rfl, Nat.le_of_ble_eq_true rfl⟩ ⟨Nat.le_refl 0, Nat.le_refl 0⟩) (fun H locs I => ?_)
                      refine lv_aload_n X.1 X.2.1 dX12_clause_184 rfl (lv_at hl 2 rfl) ?_
                      refine g12_11 X I (k := 123) (by decide) rfl lf_X12_28 dX12_clause_185 ?_
                      refine lv_iload_n X.1 X.2.1 dX12_clause_188 rfl (lv_at hl 1 rfl) ?_
                      refine lv_aload_n X.1 X.2.1 dX12_clause_189 rfl (lv_at hl 2 rfl) ?_
                      refine g12_10 X I (k := 123) (by decide) rfl lf_X12_25 dX12_clause_190 ?_
                      refine lv_iload_n X.1 X.2.1 dX12_clause_193 rfl (lv_at hl 1 rfl) ?_
                      have ho431 := ho.1
                      have ho := ho.2
                      refine r_ald X I (k := 129) (n := 700) (by decide) rfl ho431 dX12_clause_194 ?_
                      have ho432 := ho.1
                      have ho := ho.2
                      refine r_ast X I (k := 130) (n := 700) (by decide) rfl ho432 dX12_clause_195 (fun H locs I => ?_)
                      refine lv_iload_n X.1 X.2.1 dX12_clause_196 rfl (lv_at hl 0 rfl) ?_
                      refine lv_if_eq (tgt := 251) X.1 X.2.1 dX12_clause_197 (by decide) (fun c_155 => ?_) (fun c_155 => ?_)
                      · exact absurd c_155 (by decide)
                      · skip
                        refine lv_aload_n X.1 X.2.1 dX12_clause_200 rfl (lv_at hl 2 rfl) ?_
                        refine g12_4 X I (k := 123) (by decide) rfl lf_X12_122 dX12_clause_201 ?_
                        refine lv_iconst (v := (-1)) X.1 X.2.1 dX12_clause_204 (by decide) ?_
                        refine lv_icmp_ne (tgt := 251) X.1 X.2.1 dX12_clause_205 (by decide) (fun c_156 => ?_) (fun c_156 => ?_)
                        · skip
                          have hE := ite_f hE c_156
                          have ho := ite_fP ho c_156
                          refine lv_aload_n X.1 X.2.1 dX12_clause_251 rfl (lv_at hl 2 rfl) ?_
                          refine g12_12 X I (k := 123) (by decide) rfl lf_X12_31 dX12_clause_252 ?_
                          refine lv_iload_n X.1 X.2.1 dX12_clause_255 rfl (lv_at hl 1 rfl) ?_
                          refine lv_aload_n X.1 X.2.1 dX12_clause_256 rfl (lv_at hl 2 rfl) ?_
                          refine g12_8 X I (k := 123) (by decide) rfl lf_X12_19 dX12_clause_257 ?_
                          refine lv_aload_n X.1 X.2.1 dX12_clause_260 rfl (lv_at hl 2 rfl) ?_
                          refine g12_14 X I (k := 123) (by decide) rfl lf_X12_125 dX12_clause_261 ?_
                          have ho433 := ho.1
                          have ho := ho.2
                          refine r_ald X I (k := 127) (n := 5) (by decide) rfl ho433 dX12_clause_264 ?_
                          have ho434 := ho.1
                          have ho := ho.2
                          refine r_ast X I (k := 131) (n := 700) (by decide) rfl ho434 dX12_clause_265 (fun H locs I => ?_)
                          refine lv_aload_n X.1 X.2.1 dX12_clause_266 rfl (lv_at hl 2 rfl) ?_
                          refine g12_9 X I (k := 123) (by decide) rfl lf_X12_22 dX12_clause_267 ?_
                          refine lv_aload_n X.1 X.2.1 dX12_clause_270 rfl (lv_at hl 2 rfl) ?_
                          refine g12_14 X I (k := 123) (by decide) rfl lf_X12_125 dX12_clause_271 ?_
                          refine lv_dup2_11 X.1 X.2.1 dX12_clause_274 rfl rfl ?_
                          have ho435 := ho.1
                          have ho := ho.2
                          refine r_ald X I (k := 128) (n := 5) (by decide) rfl ho435 dX12_clause_275 ?_
                          refine lv_iconst (v := 1) X.1 X.2.1 dX12_clause_276 (by decide) ?_
                          refine lv_iadd X.1 X.2.1 dX12_clause_277 ?_
                          have ho436 := ho.1
                          have ho := ho.2
                          refine r_ast X I (k := 128) (n := 5) (by decide) rfl ho436 dX12_clause_278 (fun H locs I => ?_)
                          have h9 := hE
                          exact r_vret X I (e_v h9.symm rfl) dX12_clause_279
                        · skip
                          have hE := ite_t hE c_156
                          have ho := ite_tP ho c_156
                          refine lv_aload_n X.1 X.2.1 dX12_clause_208 rfl (lv_at hl 2 rfl) ?_
                          have ho437 := ho.1
                          have ho := ho.2
                          refine r_ei I (r_runV X I pk_X12_look (c12_look l G _ _ ho437) lm_X12_134 (by decide) (cl_12 rfl) rfl rfl rfl hl.1 rfl (Nat.le_of_ble_eq_true rfl) dX12_clause_209 ⟨Nat.le_of_ble_eq_true rfl, Nat.le_of_ble_eq_true rfl⟩ ⟨Nat.le_refl 0, Nat.le_refl 0⟩) (fun H locs I => ?_)
                          refine lv_bipush (v := 63) X.1 X.2.1 dX12_clause_212 (by decide) ?_
                          refine lv_icmp_eq (tgt := 222) X.1 X.2.1 dX12_clause_214 (by decide) (fun c_157 => ?_) (fun c_157 => ?_)
                          · skip
                            have hE := ite_t hE c_157
                            have ho := ite_tP ho c_157
                            refine lv_aload_n X.1 X.2.1 dX12_clause_222 rfl (lv_at hl 2 rfl) ?_
                            refine lv_dup X.1 X.2.1 dX12_clause_223 rfl ?_
                            refine g12_3 X I (k := 123) (by decide) rfl lf_X12_115 dX12_clause_224 ?_
                            refine lv_iconst (v := 1) X.1 X.2.1 dX12_clause_227 (by decide) ?_
                            refine lv_iadd X.1 X.2.1 dX12_clause_228 ?_
                            refine p12_3 X I (k := 123) (by decide) rfl lf_X12_115 dX12_clause_229 (fun H locs I => ?_)
                            refine lv_aload_n X.1 X.2.1 dX12_clause_232 rfl (lv_at hl 2 rfl) ?_
                            refine g12_11 X I (k := 123) (by decide) rfl lf_X12_28 dX12_clause_233 ?_
                            refine lv_iload_n X.1 X.2.1 dX12_clause_236 rfl (lv_at hl 1 rfl) ?_
                            refine lv_aload_n X.1 X.2.1 dX12_clause_237 rfl (lv_at hl 2 rfl) ?_
                            refine g12_8 X I (k := 123) (by decide) rfl lf_X12_19 dX12_clause_238 ?_
                            refine lv_aload_n X.1 X.2.1 dX12_clause_241 rfl (lv_at hl 2 rfl) ?_
                            refine g12_14 X I (k := 123) (by decide) rfl lf_X12_125 dX12_clause_242 ?_
                            have ho438 := ho.1
                            have ho := ho.2
                            refine r_ald X I (k := 127) (n := 5) (by decide) rfl ho438 dX12_clause_245 ?_
                            have ho439 := ho.1
                            have ho := ho.2
                            refine r_ast X I (k := 130) (n := 700) (by decide) rfl ho439 dX12_clause_246 (fun H locs I => ?_)
                            refine lv_aload_n X.1 X.2.1 dX12_clause_247 rfl (lv_at hl 2 rfl) ?_
                            have ho440 := ho.1
                            have ho := ho.2
                            refine r_ev I (r_runV X I pk_X12_sum (c12_sumR l G _ _ ho440) lm_X12_155 (by decide) (cl_12 rfl) rfl rfl rfl hl.1 rfl (Nat.le_of_ble_eq_true rfl) dX12_clause_248 ⟨Nat.le_of_ble_eq_true rfl, Nat.le_of_ble_eq_true rfl⟩ ⟨Nat.le_refl 0, Nat.le_refl 0⟩) (fun H locs I => ?_)
                            refine lv_aload_n X.1 X.2.1 dX12_clause_251 rfl (lv_at hl 2 rfl) ?_
                            refine g12_12 X I (k := 123) (by decide) rfl lf_X12_31 dX12_clause_252 ?_
                            refine lv_iload_n X.1 X.2.1 dX12_clause_255 rfl (lv_at hl 1 rfl) ?_
                            refine lv_aload_n X.1 X.2.1 dX12_clause_256 rfl (lv_at hl 2 rfl) ?_
                            refine g12_8 X I (k := 123) (by decide) rfl lf_X12_19 dX12_clause_257 ?_
                            refine lv_aload_n X.1 X.2.1 dX12_clause_260 rfl (lv_at hl 2 rfl) ?_
                            refine g12_14 X I (k := 123) (by decide) rfl lf_X12_125 dX12_clause_261 ?_
                            have ho441 := ho.1
                            have ho := ho.2
                            refine r_ald X I (k := 127) (n := 5) (by decide) rfl ho441 dX12_clause_264 ?_
                            have ho442 := ho.1
                            have ho := ho.2
                            refine r_ast X I (k := 131) (n := 700) (by decide) rfl ho442 dX12_clause_265 (fun H locs I => ?_)
                            refine lv_aload_n X.1 X.2.1 dX12_clause_266 rfl (lv_at hl 2 rfl) ?_
                            refine g12_9 X I (k := 123) (by decide) rfl lf_X12_22 dX12_clause_267 ?_
                            refine lv_aload_n X.1 X.2.1 dX12_clause_270 rfl (lv_at hl 2 rfl) ?_
                            refine g12_14 X I (k := 123) (by decide) rfl lf_X12_125 dX12_clause_271 ?_
                            refine lv_dup2_11 X.1 X.2.1 dX12_clause_274 rfl rfl ?_
                            have ho443 := ho.1
                            have ho := ho.2
                            refine r_ald X I (k := 128) (n := 5) (by decide) rfl ho443 dX12_clause_275 ?_
                            refine lv_iconst (v := 1) X.1 X.2.1 dX12_clause_276 (by decide) ?_
                            refine lv_iadd X.1 X.2.1 dX12_clause_277 ?_
                            have ho444 := ho.1
                            have ho := ho.2
                            refine r_ast X I (k := 128) (n := 5) (by decide) rfl ho444 dX12_clause_278 (fun H locs I => ?_)
                            have h9 := hE
                            exact r_vret X I (e_v h9.symm rfl) dX12_clause_279
                          · skip
                            have hE := ite_f hE c_157
                            have ho := ite_fP ho c_157
                            refine lv_aload_n X.1 X.2.1 dX12_clause_217 rfl (lv_at hl 2 rfl) ?_
                            refine r_ev I (r_runV X I pk_X12_bad (c12_bad l G _ _) lm_X12_131 (by decide) (cl_12 rfl) rfl rfl rfl hl.1 rfl (Nat.le_of_ble_eq_true rfl) dX12_clause_218 ⟨Nat.le_of_ble_eq_true rfl, Nat.le_of_ble_eq_true rfl⟩ ⟨Nat.le_refl 0, Nat.le_refl 0⟩) (fun H locs I => ?_)
                            have h9 := hE
                            exact r_vret X I (e_v h9.symm rfl) dX12_clause_221
              · exact absurd c_147 (by decide)
            · skip
              have hE := ite_t hE c_146
              have ho := ite_tP ho c_146
              refine lv_iconst (v := 1) X.1 X.2.1 dX12_clause_123 (by decide) ?_
              refine lv_goto (tgt := 128) X.1 X.2.1 dX12_clause_124 (by decide) ?_
              refine lv_istore_n (lv' := [(2, .int _), (1, .int _), (0, .ref _)]) X.1 X.2.1 dX12_clause_128 rfl hl (by decide) rfl (fun ls hl => ?_)
              refine lv_iload_n X.1 X.2.1 dX12_clause_129 rfl (lv_at hl 0 rfl) ?_
              refine lv_if_eq (tgt := 140) X.1 X.2.1 dX12_clause_130 (by decide) (fun c_158 => ?_) (fun c_158 => ?_)
              · exact absurd c_158 (by decide)
              · skip
                refine lv_aload_n X.1 X.2.1 dX12_clause_133 rfl (lv_at hl 2 rfl) ?_
                have ho445 := ho.1
                have ho := ho.2
                refine r_ev I (r_runV X I pk_X12_condition (c12_conditionR l G _ _ ho445) lm_X12_174 (by decide) (cl_12 rfl) rfl rfl rfl hl.1 rfl (Nat.le_of_ble_eq_true rfl) dX12_clause_134 ⟨Nat.le_of_ble_eq_true rfl, Nat.le_of_ble_eq_true rfl⟩ ⟨Nat.le_refl 0, Nat.le_refl 0⟩) (fun H locs I => ?_)
                refine lv_goto (tgt := 184) X.1 X.2.1 dX12_clause_137 (by decide) ?_
                refine lv_aload_n X.1 X.2.1 dX12_clause_184 rfl (lv_at hl 2 rfl) ?_
                refine g12_11 X I (k := 123) (by decide) rfl lf_X12_28 dX12_clause_185 ?_
                refine lv_iload_n X.1 X.2.1 dX12_clause_188 rfl (lv_at hl 1 rfl) ?_
                refine lv_aload_n X.1 X.2.1 dX12_clause_189 rfl (lv_at hl 2 rfl) ?_
                refine g12_10 X I (k := 123) (by decide) rfl lf_X12_25 dX12_clause_190 ?_
                refine lv_iload_n X.1 X.2.1 dX12_clause_193 rfl (lv_at hl 1 rfl) ?_
                have ho446 := ho.1
                have ho := ho.2
                refine r_ald X I (k := 129) (n := 700) (by decide) rfl ho446 dX12_clause_194 ?_
                have ho447 := ho.1
                have ho := ho.2
                refine r_ast X I (k := 130) (n := 700) (by decide) rfl ho447 dX12_clause_195 (fun H locs I => ?_)
                refine lv_iload_n X.1 X.2.1 dX12_clause_196 rfl (lv_at hl 0 rfl) ?_
                refine lv_if_eq (tgt := 251) X.1 X.2.1 dX12_clause_197 (by decide) (fun c_159 => ?_) (fun c_159 => ?_)
                · exact absurd c_159 (by decide)
                · skip
                  refine lv_aload_n X.1 X.2.1 dX12_clause_200 rfl (lv_at hl 2 rfl) ?_
                  refine g12_4 X I (k := 123) (by decide) rfl lf_X12_122 dX12_clause_201 ?_
                  refine lv_iconst (v := (-1)) X.1 X.2.1 dX12_clause_204 (by decide) ?_
                  refine lv_icmp_ne (tgt := 251) X.1 X.2.1 dX12_clause_205 (by decide) (fun c_160 => ?_) (fun c_160 => ?_)
                  · skip
                    have hE := ite_f hE c_160
                    have ho := ite_fP ho c_160
                    refine lv_aload_n X.1 X.2.1 dX12_clause_251 rfl (lv_at hl 2 rfl) ?_
                    refine g12_12 X I (k := 123) (by decide) rfl lf_X12_31 dX12_clause_252 ?_
                    refine lv_iload_n X.1 X.2.1 dX12_clause_255 rfl (lv_at hl 1 rfl) ?_
                    refine lv_aload_n X.1 X.2.1 dX12_clause_256 rfl (lv_at hl 2 rfl) ?_
                    refine g12_8 X I (k := 123) (by decide) rfl lf_X12_19 dX12_clause_257 ?_
                    refine lv_aload_n X.1 X.2.1 dX12_clause_260 rfl (lv_at hl 2 rfl) ?_
                    refine g12_14 X I (k := 123) (by decide) rfl lf_X12_125 dX12_clause_261 ?_
                    have ho448 := ho.1
                    have ho := ho.2
                    refine r_ald X I (k := 127) (n := 5) (by decide) rfl ho448 dX12_clause_264 ?_
                    have ho449 := ho.1
                    have ho := ho.2
                    refine r_ast X I (k := 131) (n := 700) (by decide) rfl ho449 dX12_clause_265 (fun H locs I => ?_)
                    refine lv_aload_n X.1 X.2.1 dX12_clause_266 rfl (lv_at hl 2 rfl) ?_
                    refine g12_9 X I (k := 123) (by decide) rfl lf_X12_22 dX12_clause_267 ?_
                    refine lv_aload_n X.1 X.2.1 dX12_clause_270 rfl (lv_at hl 2 rfl) ?_
                    refine g12_14 X I (k := 123) (by decide) rfl lf_X12_125 dX12_clause_271 ?_
                    refine lv_dup2_11 X.1 X.2.1 dX12_clause_274 rfl rfl ?_
                    have ho450 := ho.1
                    have ho := ho.2
                    refine r_ald X I (k := 128) (n := 5) (by decide) rfl ho450 dX12_clause_275 ?_
                    refine lv_iconst (v := 1) X.1 X.2.1 dX12_clause_276 (by decide) ?_
                    refine lv_iadd X.1 X.2.1 dX12_clause_277 ?_
                    have ho451 := ho.1
                    have ho := ho.2
                    refine r_ast X I (k := 128) (n := 5) (by decide) rfl ho451 dX12_clause_278 (fun H locs I => ?_)
                    have h9 := hE
                    exact r_vret X I (e_v h9.symm rfl) dX12_clause_279
                  · skip
                    have hE := ite_t hE c_160
                    have ho := ite_tP ho c_160
                    refine lv_aload_n X.1 X.2.1 dX12_clause_208 rfl (lv_at hl 2 rfl) ?_
                    have ho452 := ho.1
                    have ho := ho.2
                    refine r_ei I (r_runV X I pk_X12_look (c12_look l G _ _ ho452) lm_X12_134 (by decide) (cl_12 rfl) rfl rfl rfl hl.1 rfl (Nat.le_of_ble_eq_true rfl) dX12_clause_209 ⟨Nat.le_of_ble_eq_true rfl, Nat.le_of_ble_eq_true rfl⟩ ⟨Nat.le_refl 0, Nat.le_refl 0⟩) (fun H locs I => ?_)
                    refine lv_bipush (v := 63) X.1 X.2.1 dX12_clause_212 (by decide) ?_
                    refine lv_icmp_eq (tgt := 222) X.1 X.2.1 dX12_clause_214 (by decide) (fun c_161 => ?_) (fun c_161 => ?_)
                    · skip
                      have hE := ite_t hE c_161
                      have ho := ite_tP ho c_161
                      refine lv_aload_n X.1 X.2.1 dX12_clause_222 rfl (lv_at hl 2 rfl) ?_
                      refine lv_dup X.1 X.2.1 dX12_clause_223 rfl ?_
                      refine g12_3 X I (k := 123) (by decide) rfl lf_X12_115 dX12_clause_224 ?_
                      refine lv_iconst (v := 1) X.1 X.2.1 dX12_clause_227 (by decide) ?_
                      refine lv_iadd X.1 X.2.1 dX12_clause_228 ?_
                      refine p12_3 X I (k := 123) (by decide) rfl lf_X12_115 dX12_clause_229 (fun H locs I => ?_)
                      refine lv_aload_n X.1 X.2.1 dX12_clause_232 rfl (lv_at hl 2 rfl) ?_
                      refine g12_11 X I (k := 123) (by decide) rfl lf_X12_28 dX12_clause_233 ?_
                      refine lv_iload_n X.1 X.2.1 dX12_clause_236 rfl (lv_at hl 1 rfl) ?_
                      refine lv_aload_n X.1 X.2.1 dX12_clause_237 rfl (lv_at hl 2 rfl) ?_
                      refine g12_8 X I (k := 123) (by decide) rfl lf_X12_19 dX12_clause_238 ?_
                      refine lv_aload_n X.1 X.2.1 dX12_clause_241 rfl (lv_at hl 2 rfl) ?_
                      refine g12_14 X I (k := 123) (by decide) rfl lf_X12_125 dX12_clause_242 ?_
                      have ho453 := ho.1
                      have ho := ho.2
                      refine r_ald X I (k := 127) (n := 5) (by decide) rfl ho453 dX12_clause_245 ?_
                      have ho454 := ho.1
                      have ho := ho.2
                      refine r_ast X I (k := 130) (n := 700) (by decide) rfl ho454 dX12_clause_246 (fun H locs I => ?_)
                      refine lv_aload_n X.1 X.2.1 dX12_clause_247 rfl (lv_at hl 2 rfl) ?_
                      have ho455 := ho.1
                      have ho := ho.2
                      refine r_ev I (r_runV X I pk_X12_sum (c12_sumR l G _ _ ho455) lm_X12_155 (by decide) (cl_12 rfl) rfl rfl rfl hl.1 rfl (Nat.le_of_ble_eq_true rfl) dX12_clause_248 ⟨Nat.le_of_ble_eq_true rfl, Nat.le_of_ble_eq_true rfl⟩ ⟨Nat.le_refl 0, Nat.le_refl 0⟩) (fun H locs I => ?_)
                      refine lv_aload_n X.1 X.2.1 dX12_clause_251 rfl (lv_at hl 2 rfl) ?_
                      refine g12_12 X I (k := 123) (by decide) rfl lf_X12_31 dX12_clause_252 ?_
                      refine lv_iload_n X.1 X.2.1 dX12_clause_255 rfl (lv_at hl 1 rfl) ?_
                      refine lv_aload_n X.1 X.2.1 dX12_clause_256 rfl (lv_at hl 2 rfl) ?_
                      refine g12_8 X I (k := 123) (by decide) rfl lf_X12_19 dX12_clause_257 ?_
                      refine lv_aload_n X.1 X.2.1 dX12_clause_260 rfl (lv_at hl 2 rfl) ?_
                      refine g12_14 X I (k := 123) (by decide) rfl lf_X12_125 dX12_clause_261 ?_
                      have ho456 := ho.1
                      have ho := ho.2
                      refine r_ald X I (k := 127) (n := 5) (by decide) rfl ho456 dX12_clause_264 ?_
                      have ho457 := ho.1
                      have ho := ho.2
                      refine r_ast X I (k := 131) (n := 700) (by decide) rfl ho457 dX12_clause_265 (fun H locs I => ?_)
                      refine lv_aload_n X.1 X.2.1 dX12_clause_266 rfl (lv_at hl 2 rfl) ?_
                      refine g12_9 X I (k := 123) (by decide) rfl lf_X12_22 dX12_clause_267 ?_
                      refine lv_aload_n X.1 X.2.1 dX12_clause_270 rfl (lv_at hl 2 rfl) ?_
                      refine g12_14 X I (k := 123) (by decide) rfl lf_X12_125 dX12_clause_271 ?_
                      refine lv_dup2_11 X.1 X.2.1 dX12_clause_274 rfl rfl ?_
                      have ho458 := ho.1
                      have ho := ho.2
                      refine r_ald X I (k := 128) (n := 5) (by decide) rfl ho458 dX12_clause_275 ?_
                      refine lv_iconst (v := 1) X.1 X.2.1 dX12_clause_276 (by decide) ?_
                      refine lv_iadd X.1 X.2.1 dX12_clause_277 ?_
                      have ho459 := ho.1
                      have ho := ho.2
                      refine r_ast X I (k := 128) (n := 5) (by decide) rfl ho459 dX12_clause_278 (fun H locs I => ?_)
                      have h9 := hE
                      exact r_vret X I (e_v h9.symm rfl) dX12_clause_279
                    · skip
                      have hE := ite_f hE c_161
                      have ho := ite_fP ho c_161
                      refine lv_aload_n X.1 X.2.1 dX12_clause_217 rfl (lv_at hl 2 rfl) ?_
                      refine r_ev I (r_runV X I pk_X12_bad (c12_bad l G _ _) lm_X12_131 (by decide) (cl_12 rfl) rfl rfl rfl hl.1 rfl (Nat.le_of_ble_eq_true rfl) dX12_clause_218 ⟨Nat.le_of_ble_eq_true rfl, Nat.le_of_ble_eq_true rfl⟩ ⟨Nat.le_refl 0, Nat.le_refl 0⟩) (fun H locs I => ?_)
                      have h9 := hE
                      exact r_vret X I (e_v h9.symm rfl) dX12_clause_221
        · skip
          have hE := ite_f hE c_140
          have ho := ite_fP ho c_140
          have h9 := hE
          exact r_vret X I (e_v h9.symm rfl) dX12_clause_89
      · skip
        have hE := ite_t hE c_139
        have ho := ite_tP ho c_139
        refine lv_aload_n X.1 X.2.1 dX12_clause_58 rfl (lv_at hl 1 rfl) ?_
        have ho460 := ho.1
        have ho := ho.2
        refine r_ei I (r_runV X I pk_X12_look (c12_look l G _ _ ho460) lm_X12_134 (by decide) (cl_12 rfl) rfl rfl rfl hl.1 rfl (Nat.le_of_ble_eq_true rfl) dX12_clause_59 ⟨Nat.le_of_ble_eq_true rfl, Nat.le_of_ble_eq_true rfl⟩ ⟨Nat.le_refl 0, Nat.le_refl 0⟩) (fun H locs I => ?_)
        refine lv_bipush (v := 58) X.1 X.2.1 dX12_clause_62 (by decide) ?_
        refine lv_icmp_eq (tgt := 71) X.1 X.2.1 dX12_clause_64 (by decide) (fun c_162 => ?_) (fun c_162 => ?_)
        · skip
          have hE := ite_t hE c_162
          have ho := ite_tP ho c_162
          refine lv_aload_n X.1 X.2.1 dX12_clause_71 rfl (lv_at hl 1 rfl) ?_
          refine lv_dup X.1 X.2.1 dX12_clause_72 rfl ?_
          refine g12_3 X I (k := 123) (by decide) rfl lf_X12_115 dX12_clause_73 ?_
          refine lv_iconst (v := 1) X.1 X.2.1 dX12_clause_76 (by decide) ?_
          refine lv_iadd X.1 X.2.1 dX12_clause_77 ?_
          refine p12_3 X I (k := 123) (by decide) rfl lf_X12_115 dX12_clause_78 (fun H locs I => ?_)
          refine lv_aload_n X.1 X.2.1 dX12_clause_81 rfl (lv_at hl 1 rfl) ?_
          refine g12_4 X I (k := 123) (by decide) rfl lf_X12_122 dX12_clause_82 ?_
          refine lv_iconst (v := (-1)) X.1 X.2.1 dX12_clause_85 (by decide) ?_
          refine lv_icmp_eq (tgt := 90) X.1 X.2.1 dX12_clause_86 (by decide) (fun c_163 => ?_) (fun c_163 => ?_)
          · skip
            have hE := ite_t hE c_163
            have ho := ite_tP ho c_163
            refine lv_aload_n X.1 X.2.1 dX12_clause_90 rfl (lv_at hl 1 rfl) ?_
            refine g12_10 X I (k := 123) (by decide) rfl lf_X12_25 dX12_clause_91 ?_
            refine lv_iload_n X.1 X.2.1 dX12_clause_94 rfl (lv_at hl 0 rfl) ?_
            refine lv_aload_n X.1 X.2.1 dX12_clause_95 rfl (lv_at hl 1 rfl) ?_
            refine g12_8 X I (k := 123) (by decide) rfl lf_X12_19 dX12_clause_96 ?_
            refine lv_aload_n X.1 X.2.1 dX12_clause_99 rfl (lv_at hl 1 rfl) ?_
            refine g12_14 X I (k := 123) (by decide) rfl lf_X12_125 dX12_clause_100 ?_
            have ho461 := ho.1
            have ho := ho.2
            refine r_ald X I (k := 127) (n := 5) (by decide) rfl ho461 dX12_clause_103 ?_
            have ho462 := ho.1
            have ho := ho.2
            refine r_ast X I (k := 129) (n := 700) (by decide) rfl ho462 dX12_clause_104 (fun H locs I => ?_)
            refine lv_aload_n X.1 X.2.1 dX12_clause_105 rfl (lv_at hl 1 rfl) ?_
            have ho463 := ho.1
            have ho := ho.2
            refine r_ei I (r_runV X I pk_X12_look (c12_look l G _ _ ho463) lm_X12_134 (by decide) (cl_12 rfl) rfl rfl rfl hl.1 rfl (Nat.le_of_ble_eq_true rfl) dX12_clause_106 ⟨Nat.le_of_ble_eq_true rfl, Nat.le_of_ble_eq_true rfl⟩ ⟨Nat.le_refl 0, Nat.le_refl 0⟩) (fun H locs I => ?_)
            refine lv_bipush (v := 33) X.1 X.2.1 dX12_clause_109 (by decide) ?_
            refine lv_icmp_eq (tgt := 123) X.1 X.2.1 dX12_clause_111 (by decide) (fun c_164 => ?_) (fun c_164 => ?_)
            · skip
              have hE := ite_t hE c_164
              have ho := ite_tP ho c_164
              refine lv_iconst (v := 1) X.1 X.2.1 dX12_clause_123 (by decide) ?_
              refine lv_goto (tgt := 128) X.1 X.2.1 dX12_clause_124 (by decide) ?_
              refine lv_istore_n (lv' := [(2, .int _), (1, .int _), (0, .ref _)]) X.1 X.2.1 dX12_clause_128 rfl hl (by decide) rfl (fun ls hl => ?_)
              refine lv_iload_n X.1 X.2.1 dX12_clause_129 rfl (lv_at hl 0 rfl) ?_
              refine lv_if_eq (tgt := 140) X.1 X.2.1 dX12_clause_130 (by decide) (fun c_165 => ?_) (fun c_165 => ?_)
              · exact absurd c_165 (by decide)
              · skip
                refine lv_aload_n X.1 X.2.1 dX12_clause_133 rfl (lv_at hl 2 rfl) ?_
                have ho464 := ho.1
                have ho := ho.2
                refine r_ev I (r_runV X I pk_X12_condition (c12_conditionR l G _ _ ho464) lm_X12_174 (by decide) (cl_12 rfl) rfl rfl rfl hl.1 rfl (Nat.le_of_ble_eq_true rfl) dX12_clause_134 ⟨Nat.le_of_ble_eq_true rfl, Nat.le_of_ble_eq_true rfl⟩ ⟨Nat.le_refl 0, Nat.le_refl 0⟩) (fun H locs I => ?_)
                refine lv_goto (tgt := 184) X.1 X.2.1 dX12_clause_137 (by decide) ?_
                refine lv_aload_n X.1 X.2.1 dX12_clause_184 rfl (lv_at hl 2 rfl) ?_
                refine g12_11 X I (k := 123) (by decide) rfl lf_X12_28 dX12_clause_185 ?_
                refine lv_iload_n X.1 X.2.1 dX12_clause_188 rfl (lv_at hl 1 rfl) ?_
                refine lv_aload_n X.1 X.2.1 dX12_clause_189 rfl (lv_at hl 2 rfl) ?_
                refine g12_10 X I (k := 123) (by decide) rfl lf_X12_25 dX12_clause_190 ?_
                refine lv_iload_n X.1 X.2.1 dX12_clause_193 rfl (lv_at hl 1 rfl) ?_
                have ho465 := ho.1
                have ho := ho.2
                refine r_ald X I (k := 129) (n := 700) (by decide) rfl ho465 dX12_clause_194 ?_
                have ho466 := ho.1
                have ho := ho.2
                refine r_ast X I (k := 130) (n := 700) (by decide) rfl ho466 dX12_clause_195 (fun H locs I => ?_)
                refine lv_iload_n X.1 X.2.1 dX12_clause_196 rfl (lv_at hl 0 rfl) ?_
                refine lv_if_eq (tgt := 251) X.1 X.2.1 dX12_clause_197 (by decide) (fun c_166 => ?_) (fun c_166 => ?_)
                · exact absurd c_166 (by decide)
                · skip
                  refine lv_aload_n X.1 X.2.1 dX12_clause_200 rfl (lv_at hl 2 rfl) ?_
                  refine g12_4 X I (k := 123) (by decide) rfl lf_X12_122 dX12_clause_201 ?_
                  refine lv_iconst (v := (-1)) X.1 X.2.1 dX12_clause_204 (by decide) ?_
                  refine lv_icmp_ne (tgt := 251) X.1 X.2.1 dX12_clause_205 (by decide) (fun c_167 => ?_) (fun c_167 => ?_)
                  · skip
                    have hE := ite_f hE c_167
                    have ho := ite_fP ho c_167
                    refine lv_aload_n X.1 X.2.1 dX12_clause_251 rfl (lv_at hl 2 rfl) ?_
                    refine g12_12 X I (k := 123) (by decide) rfl lf_X12_31 dX12_clause_252 ?_
                    refine lv_iload_n X.1 X.2.1 dX12_clause_255 rfl (lv_at hl 1 rfl) ?_
                    refine lv_aload_n X.1 X.2.1 dX12_clause_256 rfl (lv_at hl 2 rfl) ?_
                    refine g12_8 X I (k := 123) (by decide) rfl lf_X12_19 dX12_clause_257 ?_
                    refine lv_aload_n X.1 X.2.1 dX12_clause_260 rfl (lv_at hl 2 rfl) ?_
                    refine g12_14 X I (k := 123) (by decide) rfl lf_X12_125 dX12_clause_261 ?_
                    have ho467 := ho.1
                    have ho := ho.2
                    refine r_ald X I (k := 127) (n := 5) (by decide) rfl ho467 dX12_clause_264 ?_
                    have ho468 := ho.1
                    have ho := ho.2
                    refine r_ast X I (k := 131) (n := 700) (by decide) rfl ho468 dX12_clause_265 (fun H locs I => ?_)
                    refine lv_aload_n X.1 X.2.1 dX12_clause_266 rfl (lv_at hl 2 rfl) ?_
                    refine g12_9 X I (k := 123) (by decide) rfl lf_X12_22 dX12_clause_267 ?_
                    refine lv_aload_n X.1 X.2.1 dX12_clause_270 rfl (lv_at hl 2 rfl) ?_
                    refine g12_14 X I (k := 123) (by decide) rfl lf_X12_125 dX12_clause_271 ?_
                    refine lv_dup2_11 X.1 X.2.1 dX12_clause_274 rfl rfl ?_
                    have ho469 := ho.1
                    have ho := ho.2
                    refine r_ald X I (k := 128) (n := 5) (by decide) rfl ho469 dX12_clause_275 ?_
                    refine lv_iconst (v := 1) X.1 X.2.1 dX12_clause_276 (by decide) ?_
                    refine lv_iadd X.1 X.2.1 dX12_clause_277 ?_
                    have ho470 := ho.1
                    have ho := ho.2
                    refine r_ast X I (k := 128) (n := 5) (by decide) rfl ho470 dX12_clause_278 (fun H locs I => ?_)
                    have h9 := hE
                    exact r_vret X I (e_v h9.symm rfl) dX12_clause_279
                  · skip
                    have hE := ite_t hE c_167
                    have ho := ite_tP ho c_167
                    refine lv_aload_n X.1 X.2.1 dX12_clause_208 rfl (lv_at hl 2 rfl) ?_
                    have ho471 := ho.1
                    have ho := ho.2
                    refine r_ei I (r_runV X I pk_X12_look (c12_look l G _ _ ho471) lm_X12_134 (by decide) (cl_12 rfl) rfl rfl rfl hl.1 rfl (Nat.le_of_ble_eq_true rfl) dX12_clause_209 ⟨Nat.le_of_ble_eq_true rfl, Nat.le_of_ble_eq_true rfl⟩ ⟨Nat.le_refl 0, Nat.le_refl 0⟩) (fun H locs I => ?_)
                    refine lv_bipush (v := 63) X.1 X.2.1 dX12_clause_212 (by decide) ?_
                    refine lv_icmp_eq (tgt := 222) X.1 X.2.1 dX12_clause_214 (by decide) (fun c_168 => ?_) (fun c_168 => ?_)
                    · skip
                      have hE := ite_t hE c_168
                      have ho := ite_tP ho c_168
                      refine lv_aload_n X.1 X.2.1 dX12_clause_222 rfl (lv_at hl 2 rfl) ?_
                      refine lv_dup X.1 X.2.1 dX12_clause_223 rfl ?_
                      refine g12_3 X I (k := 123) (by decide) rfl lf_X12_115 dX12_clause_224 ?_
                      refine lv_iconst (v := 1) X.1 X.2.1 dX12_clause_227 (by decide) ?_
                      refine lv_iadd X.1 X.2.1 dX12_clause_228 ?_
                      refine p12_3 X I (k := 123) (by decide) rfl lf_X12_115 dX12_clause_229 (fun H locs I => ?_)
                      refine lv_aload_n X.1 X.2.1 dX12_clause_232 rfl (lv_at hl 2 rfl) ?_
                      refine g12_11 X I (k := 123) (by decide) rfl lf_X12_28 dX12_clause_233 ?_
                      refine lv_iload_n X.1 X.2.1 dX12_clause_236 rfl (lv_at hl 1 rfl) ?_
                      refine lv_aload_n X.1 X.2.1 dX12_clause_237 rfl (lv_at hl 2 rfl) ?_
                      refine g12_8 X I (k := 123) (by decide) rfl lf_X12_19 dX12_clause_238 ?_
                      refine lv_aload_n X.1 X.2.1 dX12_clause_241 rfl (lv_at hl 2 rfl) ?_
                      refine g12_14 X I (k := 123) (by decide) rfl lf_X12_125 dX12_clause_242 ?_
                      have ho472 := ho.1
                      have ho := ho.2
                      refine r_ald X I (k := 127) (n := 5) (by decide) rfl ho472 dX12_clause_245 ?_
                      have ho473 := ho.1
                      have ho := ho.2
                      refine r_ast X I (k := 130) (n := 700) (by decide) rfl ho473 dX12_clause_246 (fun H locs I => ?_)
                      refine lv_aload_n X.1 X.2.1 dX12_clause_247 rfl (lv_at hl 2 rfl) ?_
                      have ho474 := ho.1
                      have ho := ho.2
                      refine r_ev I (r_runV X I pk_X12_sum (c12_sumR l G _ _ ho474) lm_X12_155 (by decide) (cl_12 rfl) rfl rfl rfl hl.1 rfl (Nat.le_of_ble_eq_true rfl) dX12_clause_248 ⟨Nat.le_of_ble_eq_true rfl, Nat.le_of_ble_eq_true rfl⟩ ⟨Nat.le_refl 0, Nat.le_refl 0⟩) (fun H locs I => ?_)
                      refine lv_aload_n X.1 X.2.1 dX12_clause_251 rfl (lv_at hl 2 rfl) ?_
                      refine g12_12 X I (k := 123) (by decide) rfl lf_X12_31 dX12_clause_252 ?_
                      refine lv_iload_n X.1 X.2.1 dX12_clause_255 rfl (lv_at hl 1 rfl) ?_
                      refine lv_aload_n X.1 X.2.1 dX12_clause_256 rfl (lv_at hl 2 rfl) ?_
                      refine g12_8 X I (k := 123) (by decide) rfl lf_X12_19 dX12_clause_257 ?_
                      refine lv_aload_n X.1 X.2.1 dX12_clause_260 rfl (lv_at hl 2 rfl) ?_
                      refine g12_14 X I (k := 123) (by decide) rfl lf_X12_125 dX12_clause_261 ?_
                      have ho475 := ho.1
                      have ho := ho.2
                      refine r_ald X I (k := 127) (n := 5) (by decide) rfl ho475 dX12_clause_264 ?_
                      have ho476 := ho.1
                      have ho := ho.2
                      refine r_ast X I (k := 131) (n := 700) (by decide) rfl ho476 dX12_clause_265 (fun H locs I => ?_)
                      refine lv_aload_n X.1 X.2.1 dX12_clause_266 rfl (lv_at hl 2 rfl) ?_
                      refine g12_9 X I (k := 123) (by decide) rfl lf_X12_22 dX12_clause_267 ?_
                      refine lv_aload_n X.1 X.2.1 dX12_clause_270 rfl (lv_at hl 2 rfl) ?_
                      refine g12_14 X I (k := 123) (by decide) rfl lf_X12_125 dX12_clause_271 ?_
                      refine lv_dup2_11 X.1 X.2.1 dX12_clause_274 rfl rfl ?_
                      have ho477 := ho.1
                      have ho := ho.2
                      refine r_ald X I (k := 128) (n := 5) (by decide) rfl ho477 dX12_clause_275 ?_
                      refine lv_iconst (v := 1) X.1 X.2.1 dX12_clause_276 (by decide) ?_
                      refine lv_iadd X.1 X.2.1 dX12_clause_277 ?_
                      have ho478 := ho.1
                      have ho := ho.2
                      refine r_ast X I (k := 128) (n := 5) (by decide) rfl ho478 dX12_clause_278 (fun H locs I => ?_)
                      have h9 := hE
                      exact r_vret X I (e_v h9.symm rfl) dX12_clause_279
                    · skip
                      have hE := ite_f hE c_168
                      have ho := ite_fP ho c_168
                      refine lv_aload_n X.1 X.2.1 dX12_clause_217 rfl (lv_at hl 2 rfl) ?_
                      refine r_ev I (r_runV X I pk_X12_bad (c12_bad l G _ _) lm_X12_131 (by decide) (cl_12 rfl) rfl rfl rfl hl.1 rfl (Nat.le_of_ble_eq_true rfl) dX12_clause_218 ⟨Nat.le_of_ble_eq_true rfl, Nat.le_of_ble_eq_true rfl⟩ ⟨Nat.le_refl 0, Nat.le_refl 0⟩) (fun H locs I => ?_)
                      have h9 := hE
                      exact r_vret X I (e_v h9.symm rfl) dX12_clause_221
            · skip
              have hE := ite_f hE c_164
              have ho := ite_fP ho c_164
              refine lv_aload_n X.1 X.2.1 dX12_clause_114 rfl (lv_at hl 1 rfl) ?_
              have ho479 := ho.1
              have ho := ho.2
              refine r_ei I (r_runV X I pk_X12_look (c12_look l G _ _ ho479) lm_X12_134 (by decide) (cl_12 rfl) rfl rfl rfl hl.1 rfl (Nat.le_of_ble_eq_true rfl) dX12_clause_115 ⟨Nat.le_of_ble_eq_true rfl, Nat.le_of_ble_eq_true rfl⟩ ⟨Nat.le_refl 0, Nat.le_refl 0⟩) (fun H locs I => ?_)
              refine lv_bipush (v := 40) X.1 X.2.1 dX12_clause_118 (by decide) ?_
              refine lv_icmp_ne (tgt := 127) X.1 X.2.1 dX12_clause_120 (by decide) (fun c_169 => ?_) (fun c_169 => ?_)
              · skip
                have hE := ite_f hE c_169
                have ho := ite_fP ho c_169
                refine lv_iconst (v := 0) X.1 X.2.1 dX12_clause_127 (by decide) ?_
                refine lv_istore_n (lv' := [(2, .int _), (1, .int _), (0, .ref _)]) X.1 X.2.1 dX12_clause_128 rfl hl (by decide) rfl (fun ls hl => ?_)
                refine lv_iload_n X.1 X.2.1 dX12_clause_129 rfl (lv_at hl 0 rfl) ?_
                refine lv_if_eq (tgt := 140) X.1 X.2.1 dX12_clause_130 (by decide) (fun c_170 => ?_) (fun c_170 => ?_)
                · skip
                  refine lv_aload_n X.1 X.2.1 dX12_clause_140 rfl (lv_at hl 2 rfl) ?_
                  have ho480 := ho.1
                  have ho := ho.2
                  refine r_ev I (r_runV X I pk_X12_sum (c12_sumR l G _ _ ho480) lm_X12_155 (by decide) (cl_12 rfl) rfl rfl rfl hl.1 rfl (Nat.le_of_ble_eq_true rfl) dX12_clause_141 ⟨Nat.le_of_ble_eq_true rfl, Nat.le_of_ble_eq_true rfl⟩ ⟨Nat.le_refl 0, Nat.le_refl 0⟩) (fun H locs I => ?_)
                  refine lv_aload_n X.1 X.2.1 dX12_clause_144 rfl (lv_at hl 2 rfl) ?_
                  refine g12_4 X I (k := 123) (by decide) rfl lf_X12_122 dX12_clause_145 ?_
                  refine lv_iconst (v := (-1)) X.1 X.2.1 dX12_clause_148 (by decide) ?_
                  refine lv_icmp_ne (tgt := 166) X.1 X.2.1 dX12_clause_149 (by decide) (fun c_171 => ?_) (fun c_171 => ?_)
                  · skip
                    have hE := ite_f hE c_171
                    have ho := ite_fP ho c_171
                    refine lv_iconst (v := 0) X.1 X.2.1 dX12_clause_166 (by decide) ?_
                    refine lv_istore_n (lv' := [(2, .int _), (1, .int _), (0, .ref _)]) X.1 X.2.1 dX12_clause_167 rfl hl (by decide) rfl (fun ls hl => ?_)
                    refine lv_iload_n X.1 X.2.1 dX12_clause_168 rfl (lv_at hl 0 rfl) ?_
                    refine lv_if_eq (tgt := 184) X.1 X.2.1 dX12_clause_169 (by decide) (fun c_172 => ?_) (fun c_172 => ?_)
                    · skip
                      refine lv_aload_n X.1 X.2.1 dX12_clause_184 rfl (lv_at hl 2 rfl) ?_
                      refine g12_11 X I (k := 123) (by decide) rfl lf_X12_28 dX12_clause_185 ?_
                      refine lv_iload_n X.1 X.2.1 dX12_clause_188 rfl (lv_at hl 1 rfl) ?_
                      refine lv_aload_n X.1 X.2.1 dX12_clause_189 rfl (lv_at hl 2 rfl) ?_
                      refine g12_10 X I (k := 123) (by decide) rfl lf_X12_25 dX12_clause_190 ?_
                      refine lv_iload_n X.1 X.2.1 dX12_clause_193 rfl (lv_at hl 1 rfl) ?_
                      have ho481 := ho.1
                      have ho := ho.2
                      refine r_ald X I (k := 129) (n := 700) (by decide) rfl ho481 dX12_clause_194 ?_
                      have ho482 := ho.1
                      have ho := ho.2
                      refine r_ast X I (k := 130) (n := 700) (by decide) rfl ho482 dX12_clause_195 (fun H locs I => ?_)
                      refine lv_iload_n X.1 X.2.1 dX12_clause_196 rfl (lv_at hl 0 rfl) ?_
                      refine lv_if_eq (tgt := 251) X.1 X.2.1 dX12_clause_197 (by decide) (fun c_173 => ?_) (fun c_173 => ?_)
                      · skip
                        refine lv_aload_n X.1 X.2.1 dX12_clause_251 rfl (lv_at hl 2 rfl) ?_
                        refine g12_12 X I (k := 123) (by decide) rfl lf_X12_31 dX12_clause_252 ?_
                        refine lv_iload_n X.1 X.2.1 dX12_clause_255 rfl (lv_at hl 1 rfl) ?_
                        refine lv_aload_n X.1 X.2.1 dX12_clause_256 rfl (lv_at hl 2 rfl) ?_
                        refine g12_8 X I (k := 123) (by decide) rfl lf_X12_19 dX12_clause_257 ?_
                        refine lv_aload_n X.1 X.2.1 dX12_clause_260 rfl (lv_at hl 2 rfl) ?_
                        refine g12_14 X I (k := 123) (by decide) rfl lf_X12_125 dX12_clause_261 ?_
                        have ho483 := ho.1
                        have ho := ho.2
                        refine r_ald X I (k := 127) (n := 5) (by decide) rfl ho483 dX12_clause_264 ?_
                        have ho484 := ho.1
                        have ho := ho.2
                        refine r_ast X I (k := 131) (n := 700) (by decide) rfl ho484 dX12_clause_265 (fun H locs I => ?_)
                        refine lv_aload_n X.1 X.2.1 dX12_clause_266 rfl (lv_at hl 2 rfl) ?_
                        refine g12_9 X I (k := 123) (by decide) rfl lf_X12_22 dX12_clause_267 ?_
                        refine lv_aload_n X.1 X.2.1 dX12_clause_270 rfl (lv_at hl 2 rfl) ?_
                        refine g12_14 X I (k := 123) (by decide) rfl lf_X12_125 dX12_clause_271 ?_
                        refine lv_dup2_11 X.1 X.2.1 dX12_clause_274 rfl rfl ?_
                        have ho485 := ho.1
                        have ho := ho.2
                        refine r_ald X I (k := 128) (n := 5) (by decide) rfl ho485 dX12_clause_275 ?_
                        refine lv_iconst (v := 1) X.1 X.2.1 dX12_clause_276 (by decide) ?_
                        refine lv_iadd X.1 X.2.1 dX12_clause_277 ?_
                        have ho486 := ho.1
                        have ho := ho.2
                        refine r_ast X I (k := 128) (n := 5) (by decide) rfl ho486 dX12_clause_278 (fun H locs I => ?_)
                        have h9 := hE
                        exact r_vret X I (e_v h9.symm rfl) dX12_clause_279
                      · exact absurd c_173 (by decide)
                    · exact absurd c_172 (by decide)
                  · skip
                    have hE := ite_t hE c_171
                    have ho := ite_tP ho c_171
                    refine lv_aload_n X.1 X.2.1 dX12_clause_152 rfl (lv_at hl 2 rfl) ?_
                    have ho487 := ho.1
                    have ho := ho.2
                    refine r_ei I (r_runV X I pk_X12_look (c12_look l G _ _ ho487) lm_X12_134 (by decide) (cl_12 rfl) rfl rfl rfl hl.1 rfl (Nat.le_of_ble_eq_true rfl) dX12_clause_153 ⟨Nat.le_of_ble_eq_true rfl, Nat.le_of_ble_eq_true rfl⟩ ⟨Nat.le_refl 0, Nat.le_refl 0⟩) (fun H locs I => ?_)
                    refine r_ei I (r_runS X I pk_X12_isSign (c12_isSign l G _ _ _) lm_X12_168 rfl hl.1 rfl (Nat.le_of_ble_eq_true rfl) dX12_clause_156 ⟨Nat.le_of_ble_eq_true rfl, Nat.le_of_ble_eq_true rfl⟩ ⟨Nat.le_refl 0, Nat.le_refl 0⟩) (fun H locs I => ?_)
                    refine lv_if_eq (tgt := 166) X.1 X.2.1 dX12_clause_159 (by decide) (fun c_174 => ?_) (fun c_174 => ?_)
                    · skip
                      have hE := ite_f hE (b2i_n c_174)
                      have ho := ite_fP ho (b2i_n c_174)
                      refine lv_iconst (v := 0) X.1 X.2.1 dX12_clause_166 (by decide) ?_
                      refine lv_istore_n (lv' := [(2, .int _), (1, .int _), (0, .ref _)]) X.1 X.2.1 dX12_clause_167 rfl hl (by decide) rfl (fun ls hl => ?_)
                      refine lv_iload_n X.1 X.2.1 dX12_clause_168 rfl (lv_at hl 0 rfl) ?_
                      refine lv_if_eq (tgt := 184) X.1 X.2.1 dX12_clause_169 (by decide) (fun c_175 => ?_) (fun c_175 => ?_)
                      · skip
                        refine lv_aload_n X.1 X.2.1 dX12_clause_184 rfl (lv_at hl 2 rfl) ?_
                        refine g12_11 X I (k := 123) (by decide) rfl lf_X12_28 dX12_clause_185 ?_
                        refine lv_iload_n X.1 X.2.1 dX12_clause_188 rfl (lv_at hl 1 rfl) ?_
                        refine lv_aload_n X.1 X.2.1 dX12_clause_189 rfl (lv_at hl 2 rfl) ?_
                        refine g12_10 X I (k := 123) (by decide) rfl lf_X12_25 dX12_clause_190 ?_
                        refine lv_iload_n X.1 X.2.1 dX12_clause_193 rfl (lv_at hl 1 rfl) ?_
                        have ho488 := ho.1
                        have ho := ho.2
                        refine r_ald X I (k := 129) (n := 700) (by decide) rfl ho488 dX12_clause_194 ?_
                        have ho489 := ho.1
                        have ho := ho.2
                        refine r_ast X I (k := 130) (n := 700) (by decide) rfl ho489 dX12_clause_195 (fun H locs I => ?_)
                        refine lv_iload_n X.1 X.2.1 dX12_clause_196 rfl (lv_at hl 0 rfl) ?_
                        refine lv_if_eq (tgt := 251) X.1 X.2.1 dX12_clause_197 (by decide) (fun c_176 => ?_) (fun c_176 => ?_)
                        · skip
                          refine lv_aload_n X.1 X.2.1 dX12_clause_251 rfl (lv_at hl 2 rfl) ?_
                          refine g12_12 X I (k := 123) (by decide) rfl lf_X12_31 dX12_clause_252 ?_
                          refine lv_iload_n X.1 X.2.1 dX12_clause_255 rfl (lv_at hl 1 rfl) ?_
                          refine lv_aload_n X.1 X.2.1 dX12_clause_256 rfl (lv_at hl 2 rfl) ?_
                          refine g12_8 X I (k := 123) (by decide) rfl lf_X12_19 dX12_clause_257 ?_
                          refine lv_aload_n X.1 X.2.1 dX12_clause_260 rfl (lv_at hl 2 rfl) ?_
                          refine g12_14 X I (k := 123) (by decide) rfl lf_X12_125 dX12_clause_261 ?_
                          have ho490 := ho.1
                          have ho := ho.2
                          refine r_ald X I (k := 127) (n := 5) (by decide) rfl ho490 dX12_clause_264 ?_
                          have ho491 := ho.1
                          have ho := ho.2
                          refine r_ast X I (k := 131) (n := 700) (by decide) rfl ho491 dX12_clause_265 (fun H locs I => ?_)
                          refine lv_aload_n X.1 X.2.1 dX12_clause_266 rfl (lv_at hl 2 rfl) ?_
                          refine g12_9 X I (k := 123) (by decide) rfl lf_X12_22 dX12_clause_267 ?_
                          refine lv_aload_n X.1 X.2.1 dX12_clause_270 rfl (lv_at hl 2 rfl) ?_
                          refine g12_14 X I (k := 123) (by decide) rfl lf_X12_125 dX12_clause_271 ?_
                          refine lv_dup2_11 X.1 X.2.1 dX12_clause_274 rfl rfl ?_
                          have ho492 := ho.1
                          have ho := ho.2
                          refine r_ald X I (k := 128) (n := 5) (by decide) rfl ho492 dX12_clause_275 ?_
                          refine lv_iconst (v := 1) X.1 X.2.1 dX12_clause_276 (by decide) ?_
                          refine lv_iadd X.1 X.2.1 dX12_clause_277 ?_
                          have ho493 := ho.1
                          have ho := ho.2
                          refine r_ast X I (k := 128) (n := 5) (by decide) rfl ho493 dX12_clause_278 (fun H locs I => ?_)
                          have h9 := hE
                          exact r_vret X I (e_v h9.symm rfl) dX12_clause_279
                        · exact absurd c_176 (by decide)
                      · exact absurd c_175 (by decide)
                    · skip
                      have hE := ite_t hE (b2i_y c_174)
                      have ho := ite_tP ho (b2i_y c_174)
                      refine lv_iconst (v := 1) X.1 X.2.1 dX12_clause_162 (by decide) ?_
                      refine lv_goto (tgt := 167) X.1 X.2.1 dX12_clause_163 (by decide) ?_
                      refine lv_istore_n (lv' := [(2, .int _), (1, .int _), (0, .ref _)]) X.1 X.2.1 dX12_clause_167 rfl hl (by decide) rfl (fun ls hl => ?_)
                      refine lv_iload_n X.1 X.2.1 dX12_clause_168 rfl (lv_at hl 0 rfl) ?_
                      refine lv_if_eq (tgt := 184) X.1 X.2.1 dX12_clause_169 (by decide) (fun c_177 => ?_) (fun c_177 => ?_)
                      · exact absurd c_177 (by decide)
                      · skip
                        refine lv_aload_n X.1 X.2.1 dX12_clause_172 rfl (lv_at hl 2 rfl) ?_
                        have ho494 := ho.1
                        have ho := ho.2
                        refine r_ev I (r_runV X I pk_X12_compare (c12_compare l G _ _ ho494) lm_X12_177 (by decide) (cl_12 rfl) rfl rfl rfl hl.1 rfl (Nat.le_of_ble_eq_true rfl) dX12_clause_173 ⟨Nat.le_of_ble_eq_true rfl, Nat.le_of_ble_eq_true rfl⟩ ⟨Nat.le_refl 0, Nat.le_refl 0⟩) (fun H locs I => ?_)
                        refine lv_aload_n X.1 X.2.1 dX12_clause_176 rfl (lv_at hl 2 rfl) ?_
                        have ho495 := ho.1
                        have ho := ho.2
                        refine r_ev I (r_runV X I pk_X12_goOnAnd (c12_goOnAndR l G _ _ ho495) lm_X12_180 (by decide) (cl_12 rfl) rfl rfl rfl hl.1 rfl (Nat.le_of_ble_eq_true rfl) dX12_clause_177 ⟨Nat.le_of_ble_eq_true rfl, Nat.le_of_ble_eq_true rfl⟩ ⟨Nat.le_refl 0, Nat.le_refl 0⟩) (fun H locs I => ?_)
                        refine lv_aload_n X.1 X.2.1 dX12_clause_180 rfl (lv_at hl 2 rfl) ?_
                        have ho496 := ho.1
                        have ho := ho.2
                        refine r_ev I (r_runV X I pk_X12_goOnOr (c12_goOnOrR l G _ _ ho496) lm_X12_183 (by decide) (cl_12 rfl) rfl rfl rfl hl.1 rfl (Nat.le_of_ble_eq_true rfl) dX12_clause_181 ⟨Nat.le_of_ble_eq_true rfl, Nat.le_of_ble_eq_true rfl⟩ ⟨Nat.le_refl 0, Nat.le_refl 0⟩) (fun H locs I => ?_)
                        refine lv_aload_n X.1 X.2.1 dX12_clause_184 rfl (lv_at hl 2 rfl) ?_
                        refine g12_11 X I (k := 123) (by decide) rfl lf_X12_28 dX12_clause_185 ?_
                        refine lv_iload_n X.1 X.2.1 dX12_clause_188 rfl (lv_at hl 1 rfl) ?_
                        refine lv_aload_n X.1 X.2.1 dX12_clause_189 rfl (lv_at hl 2 rfl) ?_
                        refine g12_10 X I (k := 123) (by decide) rfl lf_X12_25 dX12_clause_190 ?_
                        refine lv_iload_n X.1 X.2.1 dX12_clause_193 rfl (lv_at hl 1 rfl) ?_
                        have ho497 := ho.1
                        have ho := ho.2
                        refine r_ald X I (k := 129) (n := 700) (by decide) rfl ho497 dX12_clause_194 ?_
                        have ho498 := ho.1
                        have ho := ho.2
                        refine r_ast X I (k := 130) (n := 700) (by decide) rfl ho498 dX12_clause_195 (fun H locs I => ?_)
                        refine lv_iload_n X.1 X.2.1 dX12_clause_196 rfl (lv_at hl 0 rfl) ?_
                        refine lv_if_eq (tgt := 251) X.1 X.2.1 dX12_clause_197 (by decide) (fun c_178 => ?_) (fun c_178 => ?_)
                        · exact absurd c_178 (by decide)
                        · skip
                          refine lv_aload_n X.1 X.2.1 dX12_clause_200 rfl (lv_at hl 2 rfl) ?_
                          refine g12_4 X I (k := 123) (by decide) rfl lf_X12_122 dX12_clause_201 ?_
                          refine lv_iconst (v := (-1)) X.1 X.2.1 dX12_clause_204 (by decide) ?_
                          refine lv_icmp_ne (tgt := 251) X.1 X.2.1 dX12_clause_205 (by decide) (fun c_179 => ?_) (fun c_179 => ?_)
                          · skip
                            have hE := ite_f hE c_179
                            have ho := ite_fP ho c_179
                            refine lv_aload_n X.1 X.2.1 dX12_clause_251 rfl (lv_at hl 2 rfl) ?_
                            refine g12_12 X I (k := 123) (by decide) rfl lf_X12_31 dX12_clause_252 ?_
                            refine lv_iload_n X.1 X.2.1 dX12_clause_255 rfl (lv_at hl 1 rfl) ?_
                            refine lv_aload_n X.1 X.2.1 dX12_clause_256 rfl (lv_at hl 2 rfl) ?_
                            refine g12_8 X I (k := 123) (by decide) rfl lf_X12_19 dX12_clause_257 ?_
                            refine lv_aload_n X.1 X.2.1 dX12_clause_260 rfl (lv_at hl 2 rfl) ?_
                            refine g12_14 X I (k := 123) (by decide) rfl lf_X12_125 dX12_clause_261 ?_
                            have ho499 := ho.1
                            have ho := ho.2
                            refine r_ald X I (k := 127) (n := 5) (by decide) rfl ho499 dX12_clause_264 ?_
                            have ho500 := ho.1
                            have ho := ho.2
                            refine r_ast X I (k := 131) (n := 700) (by decide) rfl ho500 dX12_clause_265 (fun H locs I => ?_)
                            refine lv_aload_n X.1 X.2.1 dX12_clause_266 rfl (lv_at hl 2 rfl) ?_
                            refine g12_9 X I (k := 123) (by decide) rfl lf_X12_22 dX12_clause_267 ?_
                            refine lv_aload_n X.1 X.2.1 dX12_clause_270 rfl (lv_at hl 2 rfl) ?_
                            refine g12_14 X I (k := 123) (by decide) rfl lf_X12_125 dX12_clause_271 ?_
                            refine lv_dup2_11 X.1 X.2.1 dX12_clause_274 rfl rfl ?_
                            have ho501 := ho.1
                            have ho := ho.2
                            refine r_ald X I (k := 128) (n := 5) (by decide) rfl ho501 dX12_clause_275 ?_
                            refine lv_iconst (v := 1) X.1 X.2.1 dX12_clause_276 (by decide) ?_
                            refine lv_iadd X.1 X.2.1 dX12_clause_277 ?_
                            have ho502 := ho.1
                            have ho := ho.2
                            refine r_ast X I (k := 128) (n := 5) (by decide) rfl ho502 dX12_clause_278 (fun H locs I => ?_)
                            have h9 := hE
                            exact r_vret X I (e_v h9.symm rfl) dX12_clause_279
                          · skip
                            have hE := ite_t hE c_179
                            have ho := ite_tP ho c_179
                            refine lv_aload_n X.1 X.2.1 dX12_clause_208 rfl (lv_at hl 2 rfl) ?_
                            have ho503 := ho.1
                            have ho := ho.2
                            refine r_ei I (r_runV X I pk_X12_look (c12_look l G _ _ ho503) lm_X12_134 (by decide) (cl_12 rfl) rfl rfl rfl hl.1 rfl (Nat.le_of_ble_eq_true rfl) dX12_clause_209 ⟨Nat.le_of_ble_eq_true rfl, Nat.le_of_ble_eq_true rfl⟩ ⟨Nat.le_refl 0, Nat.le_refl 0⟩) (fun H locs I => ?_)
                            refine lv_bipush (v := 63) X.1 X.2.1 dX12_clause_212 (by decide) ?_
                            refine lv_icmp_eq (tgt := 222) X.1 X.2.1 dX12_clause_214 (by decide) (fun c_180 => ?_) (fun c_180 => ?_)
                            · skip
                              have hE := ite_t hE c_180
                              have ho := ite_tP ho c_180
                              refine lv_aload_n X.1 X.2.1 dX12_clause_222 rfl (lv_at hl 2 rfl) ?_
                              refine lv_dup X.1 X.2.1 dX12_clause_223 rfl ?_
                              refine g12_3 X I (k := 123) (by decide) rfl lf_X12_115 dX12_clause_224 ?_
                              refine lv_iconst (v := 1) X.1 X.2.1 dX12_clause_227 (by decide) ?_
                              refine lv_iadd X.1 X.2.1 dX12_clause_228 ?_
                              refine p12_3 X I (k := 123) (by decide) rfl lf_X12_115 dX12_clause_229 (fun H locs I => ?_)
                              refine lv_aload_n X.1 X.2.1 dX12_clause_232 rfl (lv_at hl 2 rfl) ?_
                              refine g12_11 X I (k := 123) (by decide) rfl lf_X12_28 dX12_clause_233 ?_
                              refine lv_iload_n X.1 X.2.1 dX12_clause_236 rfl (lv_at hl 1 rfl) ?_
                              refine lv_aload_n X.1 X.2.1 dX12_clause_237 rfl (lv_at hl 2 rfl) ?_
                              refine g12_8 X I (k := 123) (by decide) rfl lf_X12_19 dX12_clause_238 ?_
                              refine lv_aload_n X.1 X.2.1 dX12_clause_241 rfl (lv_at hl 2 rfl) ?_
                              refine g12_14 X I (k := 123) (by decide) rfl lf_X12_125 dX12_clause_242 ?_
                              have ho504 := ho.1
                              have ho := ho.2
                              refine r_ald X I (k := 127) (n := 5) (by decide) rfl ho504 dX12_clause_245 ?_
                              have ho505 := ho.1
                              have ho := ho.2
                              refine r_ast X I (k := 130) (n := 700) (by decide) rfl ho505 dX12_clause_246 (fun H locs I => ?_)
                              refine lv_aload_n X.1 X.2.1 dX12_clause_247 rfl (lv_at hl 2 rfl) ?_
                              have ho506 := ho.1
                              have ho := ho.2
                              refine r_ev I (r_runV X I pk_X12_sum (c12_sumR l G _ _ ho506) lm_X12_155 (by decide) (cl_12 rfl) rfl rfl rfl hl.1 rfl (Nat.le_of_ble_eq_true rfl) dX12_clause_248 ⟨Nat.le_of_ble_eq_true rfl, Nat.le_of_ble_eq_true rfl⟩ ⟨Nat.le_refl 0, Nat.le_refl 0⟩) (fun H locs I => ?_)
                              refine lv_aload_n X.1 X.2.1 dX12_clause_251 rfl (lv_at hl 2 rfl) ?_
                              refine g12_12 X I (k := 123) (by decide) rfl lf_X12_31 dX12_clause_252 ?_
                              refine lv_iload_n X.1 X.2.1 dX12_clause_255 rfl (lv_at hl 1 rfl) ?_
                              refine lv_aload_n X.1 X.2.1 dX12_clause_256 rfl (lv_at hl 2 rfl) ?_
                              refine g12_8 X I (k := 123) (by decide) rfl lf_X12_19 dX12_clause_257 ?_
                              refine lv_aload_n X.1 X.2.1 dX12_clause_260 rfl (lv_at hl 2 rfl) ?_
                              refine g12_14 X I (k := 123) (by decide) rfl lf_X12_125 dX12_clause_261 ?_
                              have ho507 := ho.1
                              have ho := ho.2
                              refine r_ald X I (k := 127) (n := 5) (by decide) rfl ho507 dX12_clause_264 ?_
                              have ho508 := ho.1
                              have ho := ho.2
                              refine r_ast X I (k := 131) (n := 700) (by decide) rfl ho508 dX12_clause_265 (fun H locs I => ?_)
                              refine lv_aload_n X.1 X.2.1 dX12_clause_266 rfl (lv_at hl 2 rfl) ?_
                              refine g12_9 X I (k := 123) (by decide) rfl lf_X12_22 dX12_clause_267 ?_
                              refine lv_aload_n X.1 X.2.1 dX12_clause_270 rfl (lv_at hl 2 rfl) ?_
                              refine g12_14 X I (k := 123) (by decide) rfl lf_X12_125 dX12_clause_271 ?_
                              refine lv_dup2_11 X.1 X.2.1 dX12_clause_274 rfl rfl ?_
                              have ho509 := ho.1
                              have ho := ho.2
                              refine r_ald X I (k := 128) (n := 5) (by decide) rfl ho509 dX12_clause_275 ?_
                              refine lv_iconst (v := 1) X.1 X.2.1 dX12_clause_276 (by decide) ?_
                              refine lv_iadd X.1 X.2.1 dX12_clause_277 ?_
                              have ho510 := ho.1
                              have ho := ho.2
                              refine r_ast X I (k := 128) (n := 5) (by decide) rfl ho510 dX12_clause_278 (fun H locs I => ?_)
                              have h9 := hE
                              exact r_vret X I (e_v h9.symm rfl) dX12_clause_279
                            · skip
                              have hE := ite_f hE c_180
                              have ho := ite_fP ho c_180
                              refine lv_aload_n X.1 X.2.1 dX12_clause_217 rfl (lv_at hl 2 rfl) ?_
                              refine r_ev I (r_runV X I pk_X12_bad (c12_bad l G _ _) lm_X12_131 (by decide) (cl_12 rfl) rfl rfl rfl hl.1 rfl (Nat.le_of_ble_eq_true rfl) dX12_clause_218 ⟨Nat.le_of_ble_eq_true rfl, Nat.le_of_ble_eq_true rfl⟩ ⟨Nat.le_refl 0, Nat.le_refl 0⟩) (fun H locs I => ?_)
                              have h9 := hE
                              exact r_vret X I (e_v h9.symm rfl) dX12_clause_221
                · exact absurd c_170 (by decide)
              · skip
                have hE := ite_t hE c_169
                have ho := ite_tP ho c_169
                refine lv_iconst (v := 1) X.1 X.2.1 dX12_clause_123 (by decide) ?_
                refine lv_goto (tgt := 128) X.1 X.2.1 dX12_clause_124 (by decide) ?_
                refine lv_istore_n (lv' := [(2, .int _), (1, .int _), (0, .ref _)]) X.1 X.2.1 dX12_clause_128 rfl hl (by decide) rfl (fun ls hl => ?_)
                refine lv_iload_n X.1 X.2.1 dX12_clause_129 rfl (lv_at hl 0 rfl) ?_
                refine lv_if_eq (tgt := 140) X.1 X.2.1 dX12_clause_130 (by decide) (fun c_181 => ?_) (fun c_181 => ?_)
                · exact absurd c_181 (by decide)
                · skip
                  refine lv_aload_n X.1 X.2.1 dX12_clause_133 rfl (lv_at hl 2 rfl) ?_
                  have ho511 := ho.1
                  have ho := ho.2
                  refine r_ev I (r_runV X I pk_X12_condition (c12_conditionR l G _ _ ho511) lm_X12_174 (by decide) (cl_12 rfl) rfl rfl rfl hl.1 rfl (Nat.le_of_ble_eq_true rfl) dX12_clause_134 ⟨Nat.le_of_ble_eq_true rfl, Nat.le_of_ble_eq_true rfl⟩ ⟨Nat.le_refl 0, Nat.le_refl 0⟩) (fun H locs I => ?_)
                  refine lv_goto (tgt := 184) X.1 X.2.1 dX12_clause_137 (by decide) ?_
                  refine lv_aload_n X.1 X.2.1 dX12_clause_184 rfl (lv_at hl 2 rfl) ?_
                  refine g12_11 X I (k := 123) (by decide) rfl lf_X12_28 dX12_clause_185 ?_
                  refine lv_iload_n X.1 X.2.1 dX12_clause_188 rfl (lv_at hl 1 rfl) ?_
                  refine lv_aload_n X.1 X.2.1 dX12_clause_189 rfl (lv_at hl 2 rfl) ?_
                  refine g12_10 X I (k := 123) (by decide) rfl lf_X12_25 dX12_clause_190 ?_
                  refine lv_iload_n X.1 X.2.1 dX12_clause_193 rfl (lv_at hl 1 rfl) ?_
                  have ho512 := ho.1
                  have ho := ho.2
                  refine r_ald X I (k := 129) (n := 700) (by decide) rfl ho512 dX12_clause_194 ?_
                  have ho513 := ho.1
                  have ho := ho.2
                  refine r_ast X I (k := 130) (n := 700) (by decide) rfl ho513 dX12_clause_195 (fun H locs I => ?_)
                  refine lv_iload_n X.1 X.2.1 dX12_clause_196 rfl (lv_at hl 0 rfl) ?_
                  refine lv_if_eq (tgt := 251) X.1 X.2.1 dX12_clause_197 (by decide) (fun c_182 => ?_) (fun c_182 => ?_)
                  · exact absurd c_182 (by decide)
                  · skip
                    refine lv_aload_n X.1 X.2.1 dX12_clause_200 rfl (lv_at hl 2 rfl) ?_
                    refine g12_4 X I (k := 123) (by decide) rfl lf_X12_122 dX12_clause_201 ?_
                    refine lv_iconst (v := (-1)) X.1 X.2.1 dX12_clause_204 (by decide) ?_
                    refine lv_icmp_ne (tgt := 251) X.1 X.2.1 dX12_clause_205 (by decide) (fun c_183 => ?_) (fun c_183 => ?_)
                    · skip
                      have hE := ite_f hE c_183
                      have ho := ite_fP ho c_183
                      refine lv_aload_n X.1 X.2.1 dX12_clause_251 rfl (lv_at hl 2 rfl) ?_
                      refine g12_12 X I (k := 123) (by decide) rfl lf_X12_31 dX12_clause_252 ?_
                      refine lv_iload_n X.1 X.2.1 dX12_clause_255 rfl (lv_at hl 1 rfl) ?_
                      refine lv_aload_n X.1 X.2.1 dX12_clause_256 rfl (lv_at hl 2 rfl) ?_
                      refine g12_8 X I (k := 123) (by decide) rfl lf_X12_19 dX12_clause_257 ?_
                      refine lv_aload_n X.1 X.2.1 dX12_clause_260 rfl (lv_at hl 2 rfl) ?_
                      refine g12_14 X I (k := 123) (by decide) rfl lf_X12_125 dX12_clause_261 ?_
                      have ho514 := ho.1
                      have ho := ho.2
                      refine r_ald X I (k := 127) (n := 5) (by decide) rfl ho514 dX12_clause_264 ?_
                      have ho515 := ho.1
                      have ho := ho.2
                      refine r_ast X I (k := 131) (n := 700) (by decide) rfl ho515 dX12_clause_265 (fun H locs I => ?_)
                      refine lv_aload_n X.1 X.2.1 dX12_clause_266 rfl (lv_at hl 2 rfl) ?_
                      refine g12_9 X I (k := 123) (by decide) rfl lf_X12_22 dX12_clause_267 ?_
                      refine lv_aload_n X.1 X.2.1 dX12_clause_270 rfl (lv_at hl 2 rfl) ?_
                      refine g12_14 X I (k := 123) (by decide) rfl lf_X12_125 dX12_clause_271 ?_
                      refine lv_dup2_11 X.1 X.2.1 dX12_clause_274 rfl rfl ?_
                      have ho516 := ho.1
                      have ho := ho.2
                      refine r_ald X I (k := 128) (n := 5) (by decide) rfl ho516 dX12_clause_275 ?_
                      refine lv_iconst (v := 1) X.1 X.2.1 dX12_clause_276 (by decide) ?_
                      refine lv_iadd X.1 X.2.1 dX12_clause_277 ?_
                      have ho517 := ho.1
                      have ho := ho.2
                      refine r_ast X I (k := 128) (n := 5) (by decide) rfl ho517 dX12_clause_278 (fun H locs I => ?_)
                      have h9 := hE
                      exact r_vret X I (e_v h9.symm rfl) dX12_clause_279
                    · skip
                      have hE := ite_t hE c_183
                      have ho := ite_tP ho c_183
                      refine lv_aload_n X.1 X.2.1 dX12_clause_208 rfl (lv_at hl 2 rfl) ?_
                      have ho518 := ho.1
                      have ho := ho.2
                      refine r_ei I (r_runV X I pk_X12_look (c12_look l G _ _ ho518) lm_X12_134 (by decide) (cl_12 rfl) rfl rfl rfl hl.1 rfl (Nat.le_of_ble_eq_true rfl) dX12_clause_209 ⟨Nat.le_of_ble_eq_true rfl, Nat.le_of_ble_eq_true rfl⟩ ⟨Nat.le_refl 0, Nat.le_refl 0⟩) (fun H locs I => ?_)
                      refine lv_bipush (v := 63) X.1 X.2.1 dX12_clause_212 (by decide) ?_
                      refine lv_icmp_eq (tgt := 222) X.1 X.2.1 dX12_clause_214 (by decide) (fun c_184 => ?_) (fun c_184 => ?_)
                      · skip
                        have hE := ite_t hE c_184
                        have ho := ite_tP ho c_184
                        refine lv_aload_n X.1 X.2.1 dX12_clause_222 rfl (lv_at hl 2 rfl) ?_
                        refine lv_dup X.1 X.2.1 dX12_clause_223 rfl ?_
                        refine g12_3 X I (k := 123) (by decide) rfl lf_X12_115 dX12_clause_224 ?_
                        refine lv_iconst (v := 1) X.1 X.2.1 dX12_clause_227 (by decide) ?_
                        refine lv_iadd X.1 X.2.1 dX12_clause_228 ?_
                        refine p12_3 X I (k := 123) (by decide) rfl lf_X12_115 dX12_clause_229 (fun H locs I => ?_)
                        refine lv_aload_n X.1 X.2.1 dX12_clause_232 rfl (lv_at hl 2 rfl) ?_
                        refine g12_11 X I (k := 123) (by decide) rfl lf_X12_28 dX12_clause_233 ?_
                        refine lv_iload_n X.1 X.2.1 dX12_clause_236 rfl (lv_at hl 1 rfl) ?_
                        refine lv_aload_n X.1 X.2.1 dX12_clause_237 rfl (lv_at hl 2 rfl) ?_
                        refine g12_8 X I (k := 123) (by decide) rfl lf_X12_19 dX12_clause_238 ?_
                        refine lv_aload_n X.1 X.2.1 dX12_clause_241 rfl (lv_at hl 2 rfl) ?_
                        refine g12_14 X I (k := 123) (by decide) rfl lf_X12_125 dX12_clause_242 ?_
                        have ho519 := ho.1
                        have ho := ho.2
                        refine r_ald X I (k := 127) (n := 5) (by decide) rfl ho519 dX12_clause_245 ?_
                        have ho520 := ho.1
                        have ho := ho.2
                        refine r_ast X I (k := 130) (n := 700) (by decide) rfl ho520 dX12_clause_246 (fun H locs I => ?_)
                        refine lv_aload_n X.1 X.2.1 dX12_clause_247 rfl (lv_at hl 2 rfl) ?_
                        have ho521 := ho.1
                        have ho := ho.2
                        refine r_ev I (r_runV X I pk_X12_sum (c12_sumR l G _ _ ho521) lm_X12_155 (by decide) (cl_12 rfl) rfl rfl rfl hl.1 rfl (Nat.le_of_ble_eq_true rfl) dX12_clause_248 ⟨Nat.le_of_ble_eq_true rfl, Nat.le_of_ble_eq_true rfl⟩ ⟨Nat.le_refl 0, Nat.le_refl 0⟩) (fun H locs I => ?_)
                        refine lv_aload_n X.1 X.2.1 dX12_clause_251 rfl (lv_at hl 2 rfl) ?_
                        refine g12_12 X I (k := 123) (by decide) rfl lf_X12_31 dX12_clause_252 ?_
                        refine lv_iload_n X.1 X.2.1 dX12_clause_255 rfl (lv_at hl 1 rfl) ?_
                        refine lv_aload_n X.1 X.2.1 dX12_clause_256 rfl (lv_at hl 2 rfl) ?_
                        refine g12_8 X I (k := 123) (by decide) rfl lf_X12_19 dX12_clause_257 ?_
                        refine lv_aload_n X.1 X.2.1 dX12_clause_260 rfl (lv_at hl 2 rfl) ?_
                        refine g12_14 X I (k := 123) (by decide) rfl lf_X12_125 dX12_clause_261 ?_
                        have ho522 := ho.1
                        have ho := ho.2
                        refine r_ald X I (k := 127) (n := 5) (by decide) rfl ho522 dX12_clause_264 ?_
                        have ho523 := ho.1
                        have ho := ho.2
                        refine r_ast X I (k := 131) (n := 700) (by decide) rfl ho523 dX12_clause_265 (fun H locs I => ?_)
                        refine lv_aload_n X.1 X.2.1 dX12_clause_266 rfl (lv_at hl 2 rfl) ?_
                        refine g12_9 X I (k := 123) (by decide) rfl lf_X12_22 dX12_clause_267 ?_
                        refine lv_aload_n X.1 X.2.1 dX12_clause_270 rfl (lv_at hl 2 rfl) ?_
                        refine g12_14 X I (k := 123) (by decide) rfl lf_X12_125 dX12_clause_271 ?_
                        refine lv_dup2_11 X.1 X.2.1 dX12_clause_274 rfl rfl ?_
                        have ho524 := ho.1
                        have ho := ho.2
                        refine r_ald X I (k := 128) (n := 5) (by decide) rfl ho524 dX12_clause_275 ?_
                        refine lv_iconst (v := 1) X.1 X.2.1 dX12_clause_276 (by decide) ?_
                        refine lv_iadd X.1 X.2.1 dX12_clause_277 ?_
                        have ho525 := ho.1
                        have ho := ho.2
                        refine r_ast X I (k := 128) (n := 5) (by decide) rfl ho525 dX12_clause_278 (fun H locs I => ?_)
                        have h9 := hE
                        exact r_vret X I (e_v h9.symm rfl) dX12_clause_279
                      · skip
                        have hE := ite_f hE c_184
                        have ho := ite_fP ho c_184
                        refine lv_aload_n X.1 X.2.1 dX12_clause_217 rfl (lv_at hl 2 rfl) ?_
                        refine r_ev I (r_runV X I pk_X12_bad (c12_bad l G _ _) lm_X12_131 (by decide) (cl_12 rfl) rfl rfl rfl hl.1 rfl (Nat.le_of_ble_eq_true rfl) dX12_clause_218 ⟨Nat.le_of_ble_eq_true rfl, Nat.le_of_ble_eq_true rfl⟩ ⟨Nat.le_refl 0, Nat.le_refl 0⟩) (fun H locs I => ?_)
                        have h9 := hE
                        exact r_vret X I (e_v h9.symm rfl) dX12_clause_221
          · skip
            have hE := ite_f hE c_163
            have ho := ite_fP ho c_163
            have h9 := hE
            exact r_vret X I (e_v h9.symm rfl) dX12_clause_89
        · skip
          have hE := ite_f hE c_162
          have ho := ite_fP ho c_162
          refine lv_aload_n X.1 X.2.1 dX12_clause_67 rfl (lv_at hl 1 rfl) ?_
          refine r_ev I (r_runV X I pk_X12_bad (c12_bad l G _ _) lm_X12_131 (by decide) (cl_12 rfl) rfl rfl rfl hl.1 rfl (Nat.le_of_ble_eq_true rfl) dX12_clause_68 ⟨Nat.le_of_ble_eq_true rfl, Nat.le_of_ble_eq_true rfl⟩ ⟨Nat.le_refl 0, Nat.le_refl 0⟩) (fun H locs I => ?_)
          refine lv_aload_n X.1 X.2.1 dX12_clause_71 rfl (lv_at hl 1 rfl) ?_
          refine lv_dup X.1 X.2.1 dX12_clause_72 rfl ?_
          refine g12_3 X I (k := 123) (by decide) rfl lf_X12_115 dX12_clause_73 ?_
          refine lv_iconst (v := 1) X.1 X.2.1 dX12_clause_76 (by decide) ?_
          refine lv_iadd X.1 X.2.1 dX12_clause_77 ?_
          refine p12_3 X I (k := 123) (by decide) rfl lf_X12_115 dX12_clause_78 (fun H locs I => ?_)
          refine lv_aload_n X.1 X.2.1 dX12_clause_81 rfl (lv_at hl 1 rfl) ?_
          refine g12_4 X I (k := 123) (by decide) rfl lf_X12_122 dX12_clause_82 ?_
          refine lv_iconst (v := (-1)) X.1 X.2.1 dX12_clause_85 (by decide) ?_
          refine lv_icmp_eq (tgt := 90) X.1 X.2.1 dX12_clause_86 (by decide) (fun c_185 => ?_) (fun c_185 => ?_)
          · skip
            have hE := ite_t hE c_185
            have ho := ite_tP ho c_185
            refine lv_aload_n X.1 X.2.1 dX12_clause_90 rfl (lv_at hl 1 rfl) ?_
            refine g12_10 X I (k := 123) (by decide) rfl lf_X12_25 dX12_clause_91 ?_
            refine lv_iload_n X.1 X.2.1 dX12_clause_94 rfl (lv_at hl 0 rfl) ?_
            refine lv_aload_n X.1 X.2.1 dX12_clause_95 rfl (lv_at hl 1 rfl) ?_
            refine g12_8 X I (k := 123) (by decide) rfl lf_X12_19 dX12_clause_96 ?_
            refine lv_aload_n X.1 X.2.1 dX12_clause_99 rfl (lv_at hl 1 rfl) ?_
            refine g12_14 X I (k := 123) (by decide) rfl lf_X12_125 dX12_clause_100 ?_
            have ho526 := ho.1
            have ho := ho.2
            refine r_ald X I (k := 127) (n := 5) (by decide) rfl ho526 dX12_clause_103 ?_
            have ho527 := ho.1
            have ho := ho.2
            refine r_ast X I (k := 129) (n := 700) (by decide) rfl ho527 dX12_clause_104 (fun H locs I => ?_)
            refine lv_aload_n X.1 X.2.1 dX12_clause_105 rfl (lv_at hl 1 rfl) ?_
            have ho528 := ho.1
            have ho := ho.2
            refine r_ei I (r_runV X I pk_X12_look (c12_look l G _ _ ho528) lm_X12_134 (by decide) (cl_12 rfl) rfl rfl rfl hl.1 rfl (Nat.le_of_ble_eq_true rfl) dX12_clause_106 ⟨Nat.le_of_ble_eq_true rfl, Nat.le_of_ble_eq_true rfl⟩ ⟨Nat.le_refl 0, Nat.le_refl 0⟩) (fun H locs I => ?_)
            refine lv_bipush (v := 33) X.1 X.2.1 dX12_clause_109 (by decide) ?_
            refine lv_icmp_eq (tgt := 123) X.1 X.2.1 dX12_clause_111 (by decide) (fun c_186 => ?_) (fun c_186 => ?_)
            · skip
              have hE := ite_t hE c_186
              have ho := ite_tP ho c_186
              refine lv_iconst (v := 1) X.1 X.2.1 dX12_clause_123 (by decide) ?_
              refine lv_goto (tgt := 128) X.1 X.2.1 dX12_clause_124 (by decide) ?_
              refine lv_istore_n (lv' := [(2, .int _), (1, .int _), (0, .ref _)]) X.1 X.2.1 dX12_clause_128 rfl hl (by decide) rfl (fun ls hl => ?_)
              refine lv_iload_n X.1 X.2.1 dX12_clause_129 rfl (lv_at hl 0 rfl) ?_
              refine lv_if_eq (tgt := 140) X.1 X.2.1 dX12_clause_130 (by decide) (fun c_187 => ?_) (fun c_187 => ?_)
              · exact absurd c_187 (by decide)
              · skip
                refine lv_aload_n X.1 X.2.1 dX12_clause_133 rfl (lv_at hl 2 rfl) ?_
                have ho529 := ho.1
                have ho := ho.2
                refine r_ev I (r_runV X I pk_X12_condition (c12_conditionR l G _ _ ho529) lm_X12_174 (by decide) (cl_12 rfl) rfl rfl rfl hl.1 rfl (Nat.le_of_ble_eq_true rfl) dX12_clause_134 ⟨Nat.le_of_ble_eq_true rfl, Nat.le_of_ble_eq_true rfl⟩ ⟨Nat.le_refl 0, Nat.le_refl 0⟩) (fun H locs I => ?_)
                refine lv_goto (tgt := 184) X.1 X.2.1 dX12_clause_137 (by decide) ?_
                refine lv_aload_n X.1 X.2.1 dX12_clause_184 rfl (lv_at hl 2 rfl) ?_
                refine g12_11 X I (k := 123) (by decide) rfl lf_X12_28 dX12_clause_185 ?_
                refine lv_iload_n X.1 X.2.1 dX12_clause_188 rfl (lv_at hl 1 rfl) ?_
                refine lv_aload_n X.1 X.2.1 dX12_clause_189 rfl (lv_at hl 2 rfl) ?_
                refine g12_10 X I (k := 123) (by decide) rfl lf_X12_25 dX12_clause_190 ?_
                refine lv_iload_n X.1 X.2.1 dX12_clause_193 rfl (lv_at hl 1 rfl) ?_
                have ho530 := ho.1
                have ho := ho.2
                refine r_ald X I (k := 129) (n := 700) (by decide) rfl ho530 dX12_clause_194 ?_
                have ho531 := ho.1
                have ho := ho.2
                refine r_ast X I (k := 130) (n := 700) (by decide) rfl ho531 dX12_clause_195 (fun H locs I => ?_)
                refine lv_iload_n X.1 X.2.1 dX12_clause_196 rfl (lv_at hl 0 rfl) ?_
                refine lv_if_eq (tgt := 251) X.1 X.2.1 dX12_clause_197 (by decide) (fun c_188 => ?_) (fun c_188 => ?_)
                · exact absurd c_188 (by decide)
                · skip
                  refine lv_aload_n X.1 X.2.1 dX12_clause_200 rfl (lv_at hl 2 rfl) ?_
                  refine g12_4 X I (k := 123) (by decide) rfl lf_X12_122 dX12_clause_201 ?_
                  refine lv_iconst (v := (-1)) X.1 X.2.1 dX12_clause_204 (by decide) ?_
                  refine lv_icmp_ne (tgt := 251) X.1 X.2.1 dX12_clause_205 (by decide) (fun c_189 => ?_) (fun c_189 => ?_)
                  · skip
                    have hE := ite_f hE c_189
                    have ho := ite_fP ho c_189
                    refine lv_aload_n X.1 X.2.1 dX12_clause_251 rfl (lv_at hl 2 rfl) ?_
                    refine g12_12 X I (k := 123) (by decide) rfl lf_X12_31 dX12_clause_252 ?_
                    refine lv_iload_n X.1 X.2.1 dX12_clause_255 rfl (lv_at hl 1 rfl) ?_
                    refine lv_aload_n X.1 X.2.1 dX12_clause_256 rfl (lv_at hl 2 rfl) ?_
                    refine g12_8 X I (k := 123) (by decide) rfl lf_X12_19 dX12_clause_257 ?_
                    refine lv_aload_n X.1 X.2.1 dX12_clause_260 rfl (lv_at hl 2 rfl) ?_
                    refine g12_14 X I (k := 123) (by decide) rfl lf_X12_125 dX12_clause_261 ?_
                    have ho532 := ho.1
                    have ho := ho.2
                    refine r_ald X I (k := 127) (n := 5) (by decide) rfl ho532 dX12_clause_264 ?_
                    have ho533 := ho.1
                    have ho := ho.2
                    refine r_ast X I (k := 131) (n := 700) (by decide) rfl ho533 dX12_clause_265 (fun H locs I => ?_)
                    refine lv_aload_n X.1 X.2.1 dX12_clause_266 rfl (lv_at hl 2 rfl) ?_
                    refine g12_9 X I (k := 123) (by decide) rfl lf_X12_22 dX12_clause_267 ?_
                    refine lv_aload_n X.1 X.2.1 dX12_clause_270 rfl (lv_at hl 2 rfl) ?_
                    refine g12_14 X I (k := 123) (by decide) rfl lf_X12_125 dX12_clause_271 ?_
                    refine lv_dup2_11 X.1 X.2.1 dX12_clause_274 rfl rfl ?_
                    have ho534 := ho.1
                    have ho := ho.2
                    refine r_ald X I (k := 128) (n := 5) (by decide) rfl ho534 dX12_clause_275 ?_
                    refine lv_iconst (v := 1) X.1 X.2.1 dX12_clause_276 (by decide) ?_
                    refine lv_iadd X.1 X.2.1 dX12_clause_277 ?_
                    have ho535 := ho.1
                    have ho := ho.2
                    refine r_ast X I (k := 128) (n := 5) (by decide) rfl ho535 dX12_clause_278 (fun H locs I => ?_)
                    have h9 := hE
                    exact r_vret X I (e_v h9.symm rfl) dX12_clause_279
                  · skip
                    have hE := ite_t hE c_189
                    have ho := ite_tP ho c_189
                    refine lv_aload_n X.1 X.2.1 dX12_clause_208 rfl (lv_at hl 2 rfl) ?_
                    have ho536 := ho.1
                    have ho := ho.2
                    refine r_ei I (r_runV X I pk_X12_look (c12_look l G _ _ ho536) lm_X12_134 (by decide) (cl_12 rfl) rfl rfl rfl hl.1 rfl (Nat.le_of_ble_eq_true rfl) dX12_clause_209 ⟨Nat.le_of_ble_eq_true rfl, Nat.le_of_ble_eq_true rfl⟩ ⟨Nat.le_refl 0, Nat.le_refl 0⟩) (fun H locs I => ?_)
                    refine lv_bipush (v := 63) X.1 X.2.1 dX12_clause_212 (by decide) ?_
                    refine lv_icmp_eq (tgt := 222) X.1 X.2.1 dX12_clause_214 (by decide) (fun c_190 => ?_) (fun c_190 => ?_)
                    · skip
                      have hE := ite_t hE c_190
                      have ho := ite_tP ho c_190
                      refine lv_aload_n X.1 X.2.1 dX12_clause_222 rfl (lv_at hl 2 rfl) ?_
                      refine lv_dup X.1 X.2.1 dX12_clause_223 rfl ?_
                      refine g12_3 X I (k := 123) (by decide) rfl lf_X12_115 dX12_clause_224 ?_
                      refine lv_iconst (v := 1) X.1 X.2.1 dX12_clause_227 (by decide) ?_
                      refine lv_iadd X.1 X.2.1 dX12_clause_228 ?_
                      refine p12_3 X I (k := 123) (by decide) rfl lf_X12_115 dX12_clause_229 (fun H locs I => ?_)
                      refine lv_aload_n X.1 X.2.1 dX12_clause_232 rfl (lv_at hl 2 rfl) ?_
                      refine g12_11 X I (k := 123) (by decide) rfl lf_X12_28 dX12_clause_233 ?_
                      refine lv_iload_n X.1 X.2.1 dX12_clause_236 rfl (lv_at hl 1 rfl) ?_
                      refine lv_aload_n X.1 X.2.1 dX12_clause_237 rfl (lv_at hl 2 rfl) ?_
                      refine g12_8 X I (k := 123) (by decide) rfl lf_X12_19 dX12_clause_238 ?_
                      refine lv_aload_n X.1 X.2.1 dX12_clause_241 rfl (lv_at hl 2 rfl) ?_
                      refine g12_14 X I (k := 123) (by decide) rfl lf_X12_125 dX12_clause_242 ?_
                      have ho537 := ho.1
                      have ho := ho.2
                      refine r_ald X I (k := 127) (n := 5) (by decide) rfl ho537 dX12_clause_245 ?_
                      have ho538 := ho.1
                      have ho := ho.2
                      refine r_ast X I (k := 130) (n := 700) (by decide) rfl ho538 dX12_clause_246 (fun H locs I => ?_)
                      refine lv_aload_n X.1 X.2.1 dX12_clause_247 rfl (lv_at hl 2 rfl) ?_
                      have ho539 := ho.1
                      have ho := ho.2
                      refine r_ev I (r_runV X I pk_X12_sum (c12_sumR l G _ _ ho539) lm_X12_155 (by decide) (cl_12 rfl) rfl rfl rfl hl.1 rfl (Nat.le_of_ble_eq_true rfl) dX12_clause_248 ⟨Nat.le_of_ble_eq_true rfl, Nat.le_of_ble_eq_true rfl⟩ ⟨Nat.le_refl 0, Nat.le_refl 0⟩) (fun H locs I => ?_)
                      refine lv_aload_n X.1 X.2.1 dX12_clause_251 rfl (lv_at hl 2 rfl) ?_
                      refine g12_12 X I (k := 123) (by decide) rfl lf_X12_31 dX12_clause_252 ?_
                      refine lv_iload_n X.1 X.2.1 dX12_clause_255 rfl (lv_at hl 1 rfl) ?_
                      refine lv_aload_n X.1 X.2.1 dX12_clause_256 rfl (lv_at hl 2 rfl) ?_
                      refine g12_8 X I (k := 123) (by decide) rfl lf_X12_19 dX12_clause_257 ?_
                      refine lv_aload_n X.1 X.2.1 dX12_clause_260 rfl (lv_at hl 2 rfl) ?_
                      refine g12_14 X I (k := 123) (by decide) rfl lf_X12_125 dX12_clause_261 ?_
                      have ho540 := ho.1
                      have ho := ho.2
                      refine r_ald X I (k := 127) (n := 5) (by decide) rfl ho540 dX12_clause_264 ?_
                      have ho541 := ho.1
                      have ho := ho.2
                      refine r_ast X I (k := 131) (n := 700) (by decide) rfl ho541 dX12_clause_265 (fun H locs I => ?_)
                      refine lv_aload_n X.1 X.2.1 dX12_clause_266 rfl (lv_at hl 2 rfl) ?_
                      refine g12_9 X I (k := 123) (by decide) rfl lf_X12_22 dX12_clause_267 ?_
                      refine lv_aload_n X.1 X.2.1 dX12_clause_270 rfl (lv_at hl 2 rfl) ?_
                      refine g12_14 X I (k := 123) (by decide) rfl lf_X12_125 dX12_clause_271 ?_
                      refine lv_dup2_11 X.1 X.2.1 dX12_clause_274 rfl rfl ?_
                      have ho542 := ho.1
                      have ho := ho.2
                      refine r_ald X I (k := 128) (n := 5) (by decide) rfl ho542 dX12_clause_275 ?_
                      refine lv_iconst (v := 1) X.1 X.2.1 dX12_clause_276 (by decide) ?_
                      refine lv_iadd X.1 X.2.1 dX12_clause_277 ?_
                      have ho543 := ho.1
                      have ho := ho.2
                      refine r_ast X I (k := 128) (n := 5) (by decide) rfl ho543 dX12_clause_278 (fun H locs I => ?_)
                      have h9 := hE
                      exact r_vret X I (e_v h9.symm rfl) dX12_clause_279
                    · skip
                      have hE := ite_f hE c_190
                      have ho := ite_fP ho c_190
                      refine lv_aload_n X.1 X.2.1 dX12_clause_217 rfl (lv_at hl 2 rfl) ?_
                      refine r_ev I (r_runV X I pk_X12_bad (c12_bad l G _ _) lm_X12_131 (by decide) (cl_12 rfl) rfl rfl rfl hl.1 rfl (Nat.le_of_ble_eq_true rfl) dX12_clause_218 ⟨Nat.le_of_ble_eq_true rfl, Nat.le_of_ble_eq_true rfl⟩ ⟨Nat.le_refl 0, Nat.le_refl 0⟩) (fun H locs I => ?_)
                      have h9 := hE
                      exact r_vret X I (e_v h9.symm rfl) dX12_clause_221
            · skip
              have hE := ite_f hE c_186
              have ho := ite_fP ho c_186
              refine lv_aload_n X.1 X.2.1 dX12_clause_114 rfl (lv_at hl 1 rfl) ?_
              have ho544 := ho.1
              have ho := ho.2
              refine r_ei I (r_runV X I pk_X12_look (c12_look l G _ _ ho544) lm_X12_134 (by decide) (cl_12 rfl) rfl rfl rfl hl.1 rfl (Nat.le_of_ble_eq_true rfl) dX12_clause_115 ⟨Nat.le_of_ble_eq_true rfl, Nat.le_of_ble_eq_true rfl⟩ ⟨Nat.le_refl 0, Nat.le_refl 0⟩) (fun H locs I => ?_)
              refine lv_bipush (v := 40) X.1 X.2.1 dX12_clause_118 (by decide) ?_
              refine lv_icmp_ne (tgt := 127) X.1 X.2.1 dX12_clause_120 (by decide) (fun c_191 => ?_) (fun c_191 => ?_)
              · skip
                have hE := ite_f hE c_191
                have ho := ite_fP ho c_191
                refine lv_iconst (v := 0) X.1 X.2.1 dX12_clause_127 (by decide) ?_
                refine lv_istore_n (lv' := [(2, .int _), (1, .int _), (0, .ref _)]) X.1 X.2.1 dX12_clause_128 rfl hl (by decide) rfl (fun ls hl => ?_)
                refine lv_iload_n X.1 X.2.1 dX12_clause_129 rfl (lv_at hl 0 rfl) ?_
                refine lv_if_eq (tgt := 140) X.1 X.2.1 dX12_clause_130 (by decide) (fun c_192 => ?_) (fun c_192 => ?_)
                · skip
                  refine lv_aload_n X.1 X.2.1 dX12_clause_140 rfl (lv_at hl 2 rfl) ?_
                  have ho545 := ho.1
                  have ho := ho.2
                  refine r_ev I (r_runV X I pk_X12_sum (c12_sumR l G _ _ ho545) lm_X12_155 (by decide) (cl_12 rfl) rfl rfl rfl hl.1 rfl (Nat.le_of_ble_eq_true rfl) dX12_clause_141 ⟨Nat.le_of_ble_eq_true rfl, Nat.le_of_ble_eq_true rfl⟩ ⟨Nat.le_refl 0, Nat.le_refl 0⟩) (fun H locs I => ?_)
                  refine lv_aload_n X.1 X.2.1 dX12_clause_144 rfl (lv_at hl 2 rfl) ?_
                  refine g12_4 X I (k := 123) (by decide) rfl lf_X12_122 dX12_clause_145 ?_
                  refine lv_iconst (v := (-1)) X.1 X.2.1 dX12_clause_148 (by decide) ?_
                  refine lv_icmp_ne (tgt := 166) X.1 X.2.1 dX12_clause_149 (by decide) (fun c_193 => ?_) (fun c_193 => ?_)
                  · skip
                    have hE := ite_f hE c_193
                    have ho := ite_fP ho c_193
                    refine lv_iconst (v := 0) X.1 X.2.1 dX12_clause_166 (by decide) ?_
                    refine lv_istore_n (lv' := [(2, .int _), (1, .int _), (0, .ref _)]) X.1 X.2.1 dX12_clause_167 rfl hl (by decide) rfl (fun ls hl => ?_)
                    refine lv_iload_n X.1 X.2.1 dX12_clause_168 rfl (lv_at hl 0 rfl) ?_
                    refine lv_if_eq (tgt := 184) X.1 X.2.1 dX12_clause_169 (by decide) (fun c_194 => ?_) (fun c_194 => ?_)
                    · skip
                      refine lv_aload_n X.1 X.2.1 dX12_clause_184 rfl (lv_at hl 2 rfl) ?_
                      refine g12_11 X I (k := 123) (by decide) rfl lf_X12_28 dX12_clause_185 ?_
                      refine lv_iload_n X.1 X.2.1 dX12_clause_188 rfl (lv_at hl 1 rfl) ?_
                      refine lv_aload_n X.1 X.2.1 dX12_clause_189 rfl (lv_at hl 2 rfl) ?_
                      refine g12_10 X I (k := 123) (by decide) rfl lf_X12_25 dX12_clause_190 ?_
                      refine lv_iload_n X.1 X.2.1 dX12_clause_193 rfl (lv_at hl 1 rfl) ?_
                      have ho546 := ho.1
                      have ho := ho.2
                      refine r_ald X I (k := 129) (n := 700) (by decide) rfl ho546 dX12_clause_194 ?_
                      have ho547 := ho.1
                      have ho := ho.2
                      refine r_ast X I (k := 130) (n := 700) (by decide) rfl ho547 dX12_clause_195 (fun H locs I => ?_)
                      refine lv_iload_n X.1 X.2.1 dX12_clause_196 rfl (lv_at hl 0 rfl) ?_
                      refine lv_if_eq (tgt := 251) X.1 X.2.1 dX12_clause_197 (by decide) (fun c_195 => ?_) (fun c_195 => ?_)
                      · skip
                        refine lv_aload_n X.1 X.2.1 dX12_clause_251 rfl (lv_at hl 2 rfl) ?_
                        refine g12_12 X I (k := 123) (by decide) rfl lf_X12_31 dX12_clause_252 ?_
                        refine lv_iload_n X.1 X.2.1 dX12_clause_255 rfl (lv_at hl 1 rfl) ?_
                        refine lv_aload_n X.1 X.2.1 dX12_clause_256 rfl (lv_at hl 2 rfl) ?_
                        refine g12_8 X I (k := 123) (by decide) rfl lf_X12_19 dX12_clause_257 ?_
                        refine lv_aload_n X.1 X.2.1 dX12_clause_260 rfl (lv_at hl 2 rfl) ?_
                        refine g12_14 X I (k := 123) (by decide) rfl lf_X12_125 dX12_clause_261 ?_
                        have ho548 := ho.1
                        have ho := ho.2
                        refine r_ald X I (k := 127) (n := 5) (by decide) rfl ho548 dX12_clause_264 ?_
                        have ho549 := ho.1
                        have ho := ho.2
                        refine r_ast X I (k := 131) (n := 700) (by decide) rfl ho549 dX12_clause_265 (fun H locs I => ?_)
                        refine lv_aload_n X.1 X.2.1 dX12_clause_266 rfl (lv_at hl 2 rfl) ?_
                        refine g12_9 X I (k := 123) (by decide) rfl lf_X12_22 dX12_clause_267 ?_
                        refine lv_aload_n X.1 X.2.1 dX12_clause_270 rfl (lv_at hl 2 rfl) ?_
                        refine g12_14 X I (k := 123) (by decide) rfl lf_X12_125 dX12_clause_271 ?_
                        refine lv_dup2_11 X.1 X.2.1 dX12_clause_274 rfl rfl ?_
                        have ho550 := ho.1
                        have ho := ho.2
                        refine r_ald X I (k := 128) (n := 5) (by decide) rfl ho550 dX12_clause_275 ?_
                        refine lv_iconst (v := 1) X.1 X.2.1 dX12_clause_276 (by decide) ?_
                        refine lv_iadd X.1 X.2.1 dX12_clause_277 ?_
                        have ho551 := ho.1
                        have ho := ho.2
                        refine r_ast X I (k := 128) (n := 5) (by decide) rfl ho551 dX12_clause_278 (fun H locs I => ?_)
                        have h9 := hE
                        exact r_vret X I (e_v h9.symm rfl) dX12_clause_279
                      · exact absurd c_195 (by decide)
                    · exact absurd c_194 (by decide)
                  · skip
                    have hE := ite_t hE c_193
                    have ho := ite_tP ho c_193
                    refine lv_aload_n X.1 X.2.1 dX12_clause_152 rfl (lv_at hl 2 rfl) ?_
                    have ho552 := ho.1
                    have ho := ho.2
                    refine r_ei I (r_runV X I pk_X12_look (c12_look l G _ _ ho552) lm_X12_134 (by decide) (cl_12 rfl) rfl rfl rfl hl.1 rfl (Nat.le_of_ble_eq_true rfl) dX12_clause_153 ⟨Nat.le_of_ble_eq_true rfl, Nat.le_of_ble_eq_true rfl⟩ ⟨Nat.le_refl 0, Nat.le_refl 0⟩) (fun H locs I => ?_)
                    refine r_ei I (r_runS X I pk_X12_isSign (c12_isSign l G _ _ _) lm_X12_168 rfl hl.1 rfl (Nat.le_of_ble_eq_true rfl) dX12_clause_156 ⟨Nat.le_of_ble_eq_true rfl, Nat.le_of_ble_eq_true rfl⟩ ⟨Nat.le_refl 0, Nat.le_refl 0⟩) (fun H locs I => ?_)
                    refine lv_if_eq (tgt := 166) X.1 X.2.1 dX12_clause_159 (by decide) (fun c_196 => ?_) (fun c_196 => ?_)
                    · skip
                      have hE := ite_f hE (b2i_n c_196)
                      have ho := ite_fP ho (b2i_n c_196)
                      refine lv_iconst (v := 0) X.1 X.2.1 dX12_clause_166 (by decide) ?_
                      refine lv_istore_n (lv' := [(2, .int _), (1, .int _), (0, .ref _)]) X.1 X.2.1 dX12_clause_167 rfl hl (by decide) rfl (fun ls hl => ?_)
                      refine lv_iload_n X.1 X.2.1 dX12_clause_168 rfl (lv_at hl 0 rfl) ?_
                      refine lv_if_eq (tgt := 184) X.1 X.2.1 dX12_clause_169 (by decide) (fun c_197 => ?_) (fun c_197 => ?_)
                      · skip
                        refine lv_aload_n X.1 X.2.1 dX12_clause_184 rfl (lv_at hl 2 rfl) ?_
                        refine g12_11 X I (k := 123) (by decide) rfl lf_X12_28 dX12_clause_185 ?_
                        refine lv_iload_n X.1 X.2.1 dX12_clause_188 rfl (lv_at hl 1 rfl) ?_
                        refine lv_aload_n X.1 X.2.1 dX12_clause_189 rfl (lv_at hl 2 rfl) ?_
                        refine g12_10 X I (k := 123) (by decide) rfl lf_X12_25 dX12_clause_190 ?_
                        refine lv_iload_n X.1 X.2.1 dX12_clause_193 rfl (lv_at hl 1 rfl) ?_
                        have ho553 := ho.1
                        have ho := ho.2
                        refine r_ald X I (k := 129) (n := 700) (by decide) rfl ho553 dX12_clause_194 ?_
                        have ho554 := ho.1
                        have ho := ho.2
                        refine r_ast X I (k := 130) (n := 700) (by decide) rfl ho554 dX12_clause_195 (fun H locs I => ?_)
                        refine lv_iload_n X.1 X.2.1 dX12_clause_196 rfl (lv_at hl 0 rfl) ?_
                        refine lv_if_eq (tgt := 251) X.1 X.2.1 dX12_clause_197 (by decide) (fun c_198 => ?_) (fun c_198 => ?_)
                        · skip
                          refine lv_aload_n X.1 X.2.1 dX12_clause_251 rfl (lv_at hl 2 rfl) ?_
                          refine g12_12 X I (k := 123) (by decide) rfl lf_X12_31 dX12_clause_252 ?_
                          refine lv_iload_n X.1 X.2.1 dX12_clause_255 rfl (lv_at hl 1 rfl) ?_
                          refine lv_aload_n X.1 X.2.1 dX12_clause_256 rfl (lv_at hl 2 rfl) ?_
                          refine g12_8 X I (k := 123) (by decide) rfl lf_X12_19 dX12_clause_257 ?_
                          refine lv_aload_n X.1 X.2.1 dX12_clause_260 rfl (lv_at hl 2 rfl) ?_
                          refine g12_14 X I (k := 123) (by decide) rfl lf_X12_125 dX12_clause_261 ?_
                          have ho555 := ho.1
                          have ho := ho.2
                          refine r_ald X I (k := 127) (n := 5) (by decide) rfl ho555 dX12_clause_264 ?_
                          have ho556 := ho.1
                          have ho := ho.2
                          refine r_ast X I (k := 131) (n := 700) (by decide) rfl ho556 dX12_clause_265 (fun H locs I => ?_)
                          refine lv_aload_n X.1 X.2.1 dX12_clause_266 rfl (lv_at hl 2 rfl) ?_
                          refine g12_9 X I (k := 123) (by decide) rfl lf_X12_22 dX12_clause_267 ?_
                          refine lv_aload_n X.1 X.2.1 dX12_clause_270 rfl (lv_at hl 2 rfl) ?_
                          refine g12_14 X I (k := 123) (by decide) rfl lf_X12_125 dX12_clause_271 ?_
                          refine lv_dup2_11 X.1 X.2.1 dX12_clause_274 rfl rfl ?_
                          have ho557 := ho.1
                          have ho := ho.2
                          refine r_ald X I (k := 128) (n := 5) (by decide) rfl ho557 dX12_clause_275 ?_
                          refine lv_iconst (v := 1) X.1 X.2.1 dX12_clause_276 (by decide) ?_
                          refine lv_iadd X.1 X.2.1 dX12_clause_277 ?_
                          have ho558 := ho.1
                          have ho := ho.2
                          refine r_ast X I (k := 128) (n := 5) (by decide) rfl ho558 dX12_clause_278 (fun H locs I => ?_)
                          have h9 := hE
                          exact r_vret X I (e_v h9.symm rfl) dX12_clause_279
                        · exact absurd c_198 (by decide)
                      · exact absurd c_197 (by decide)
                    · skip
                      have hE := ite_t hE (b2i_y c_196)
                      have ho := ite_tP ho (b2i_y c_196)
                      refine lv_iconst (v := 1) X.1 X.2.1 dX12_clause_162 (by decide) ?_
                      refine lv_goto (tgt := 167) X.1 X.2.1 dX12_clause_163 (by decide) ?_
                      refine lv_istore_n (lv' := [(2, .int _), (1, .int _), (0, .ref _)]) X.1 X.2.1 dX12_clause_167 rfl hl (by decide) rfl (fun ls hl => ?_)
                      refine lv_iload_n X.1 X.2.1 dX12_clause_168 rfl (lv_at hl 0 rfl) ?_
                      refine lv_if_eq (tgt := 184) X.1 X.2.1 dX12_clause_169 (by decide) (fun c_199 => ?_) (fun c_199 => ?_)
                      · exact absurd c_199 (by decide)
                      · skip
                        refine lv_aload_n X.1 X.2.1 dX12_clause_172 rfl (lv_at hl 2 rfl) ?_
                        have ho559 := ho.1
                        have ho := ho.2
                        refine r_ev I (r_runV X I pk_X12_compare (c12_compare l G _ _ ho559) lm_X12_177 (by decide) (cl_12 rfl) rfl rfl rfl hl.1 rfl (Nat.le_of_ble_eq_true rfl) dX12_clause_173 ⟨Nat.le_of_ble_eq_true rfl, Nat.le_of_ble_eq_true rfl⟩ ⟨Nat.le_refl 0, Nat.le_refl 0⟩) (fun H locs I => ?_)
                        refine lv_aload_n X.1 X.2.1 dX12_clause_176 rfl (lv_at hl 2 rfl) ?_
                        have ho560 := ho.1
                        have ho := ho.2
                        refine r_ev I (r_runV X I pk_X12_goOnAnd (c12_goOnAndR l G _ _ ho560) lm_X12_180 (by decide) (cl_12 rfl) rfl rfl rfl hl.1 rfl (Nat.le_of_ble_eq_true rfl) dX12_clause_177 ⟨Nat.le_of_ble_eq_true rfl, Nat.le_of_ble_eq_true rfl⟩ ⟨Nat.le_refl 0, Nat.le_refl 0⟩) (fun H locs I => ?_)
                        refine lv_aload_n X.1 X.2.1 dX12_clause_180 rfl (lv_at hl 2 rfl) ?_
                        have ho561 := ho.1
                        have ho := ho.2
                        refine r_ev I (r_runV X I pk_X12_goOnOr (c12_goOnOrR l G _ _ ho561) lm_X12_183 (by decide) (cl_12 rfl) rfl rfl rfl hl.1 rfl (Nat.le_of_ble_eq_true rfl) dX12_clause_181 ⟨Nat.le_of_ble_eq_true rfl, Nat.le_of_ble_eq_true rfl⟩ ⟨Nat.le_refl 0, Nat.le_refl 0⟩) (fun H locs I => ?_)
                        refine lv_aload_n X.1 X.2.1 dX12_clause_184 rfl (lv_at hl 2 rfl) ?_
                        refine g12_11 X I (k := 123) (by decide) rfl lf_X12_28 dX12_clause_185 ?_
                        refine lv_iload_n X.1 X.2.1 dX12_clause_188 rfl (lv_at hl 1 rfl) ?_
                        refine lv_aload_n X.1 X.2.1 dX12_clause_189 rfl (lv_at hl 2 rfl) ?_
                        refine g12_10 X I (k := 123) (by decide) rfl lf_X12_25 dX12_clause_190 ?_
                        refine lv_iload_n X.1 X.2.1 dX12_clause_193 rfl (lv_at hl 1 rfl) ?_
                        have ho562 := ho.1
                        have ho := ho.2
                        refine r_ald X I (k := 129) (n := 700) (by decide) rfl ho562 dX12_clause_194 ?_
                        have ho563 := ho.1
                        have ho := ho.2
                        refine r_ast X I (k := 130) (n := 700) (by decide) rfl ho563 dX12_clause_195 (fun H locs I => ?_)
                        refine lv_iload_n X.1 X.2.1 dX12_clause_196 rfl (lv_at hl 0 rfl) ?_
                        refine lv_if_eq (tgt := 251) X.1 X.2.1 dX12_clause_197 (by decide) (fun c_200 => ?_) (fun c_200 => ?_)
                        · exact absurd c_200 (by decide)
                        · skip
                          refine lv_aload_n X.1 X.2.1 dX12_clause_200 rfl (lv_at hl 2 rfl) ?_
                          refine g12_4 X I (k := 123) (by decide) rfl lf_X12_122 dX12_clause_201 ?_
                          refine lv_iconst (v := (-1)) X.1 X.2.1 dX12_clause_204 (by decide) ?_
                          refine lv_icmp_ne (tgt := 251) X.1 X.2.1 dX12_clause_205 (by decide) (fun c_201 => ?_) (fun c_201 => ?_)
                          · skip
                            have hE := ite_f hE c_201
                            have ho := ite_fP ho c_201
                            refine lv_aload_n X.1 X.2.1 dX12_clause_251 rfl (lv_at hl 2 rfl) ?_
                            refine g12_12 X I (k := 123) (by decide) rfl lf_X12_31 dX12_clause_252 ?_
                            refine lv_iload_n X.1 X.2.1 dX12_clause_255 rfl (lv_at hl 1 rfl) ?_
                            refine lv_aload_n X.1 X.2.1 dX12_clause_256 rfl (lv_at hl 2 rfl) ?_
                            refine g12_8 X I (k := 123) (by decide) rfl lf_X12_19 dX12_clause_257 ?_
                            refine lv_aload_n X.1 X.2.1 dX12_clause_260 rfl (lv_at hl 2 rfl) ?_
                            refine g12_14 X I (k := 123) (by decide) rfl lf_X12_125 dX12_clause_261 ?_
                            have ho564 := ho.1
                            have ho := ho.2
                            refine r_ald X I (k := 127) (n := 5) (by decide) rfl ho564 dX12_clause_264 ?_
                            have ho565 := ho.1
                            have ho := ho.2
                            refine r_ast X I (k := 131) (n := 700) (by decide) rfl ho565 dX12_clause_265 (fun H locs I => ?_)
                            refine lv_aload_n X.1 X.2.1 dX12_clause_266 rfl (lv_at hl 2 rfl) ?_
                            refine g12_9 X I (k := 123) (by decide) rfl lf_X12_22 dX12_clause_267 ?_
                            refine lv_aload_n X.1 X.2.1 dX12_clause_270 rfl (lv_at hl 2 rfl) ?_
                            refine g12_14 X I (k := 123) (by decide) rfl lf_X12_125 dX12_clause_271 ?_
                            refine lv_dup2_11 X.1 X.2.1 dX12_clause_274 rfl rfl ?_
                            have ho566 := ho.1
                            have ho := ho.2
                            refine r_ald X I (k := 128) (n := 5) (by decide) rfl ho566 dX12_clause_275 ?_
                            refine lv_iconst (v := 1) X.1 X.2.1 dX12_clause_276 (by decide) ?_
                            refine lv_iadd X.1 X.2.1 dX12_clause_277 ?_
                            have ho567 := ho.1
                            have ho := ho.2
                            refine r_ast X I (k := 128) (n := 5) (by decide) rfl ho567 dX12_clause_278 (fun H locs I => ?_)
                            have h9 := hE
                            exact r_vret X I (e_v h9.symm rfl) dX12_clause_279
                          · skip
                            have hE := ite_t hE c_201
                            have ho := ite_tP ho c_201
                            refine lv_aload_n X.1 X.2.1 dX12_clause_208 rfl (lv_at hl 2 rfl) ?_
                            have ho568 := ho.1
                            have ho := ho.2
                            refine r_ei I (r_runV X I pk_X12_look (c12_look l G _ _ ho568) lm_X12_134 (by decide) (cl_12 rfl) rfl rfl rfl hl.1 rfl (Nat.le_of_ble_eq_true rfl) dX12_clause_209 ⟨Nat.le_of_ble_eq_true rfl, Nat.le_of_ble_eq_true rfl⟩ ⟨Nat.le_refl 0, Nat.le_refl 0⟩) (fun H locs I => ?_)
                            refine lv_bipush (v := 63) X.1 X.2.1 dX12_clause_212 (by decide) ?_
                            refine lv_icmp_eq (tgt := 222) X.1 X.2.1 dX12_clause_214 (by decide) (fun c_202 => ?_) (fun c_202 => ?_)
                            · skip
                              have hE := ite_t hE c_202
                              have ho := ite_tP ho c_202
                              refine lv_aload_n X.1 X.2.1 dX12_clause_222 rfl (lv_at hl 2 rfl) ?_
                              refine lv_dup X.1 X.2.1 dX12_clause_223 rfl ?_
                              refine g12_3 X I (k := 123) (by decide) rfl lf_X12_115 dX12_clause_224 ?_
                              refine lv_iconst (v := 1) X.1 X.2.1 dX12_clause_227 (by decide) ?_
                              refine lv_iadd X.1 X.2.1 dX12_clause_228 ?_
                              refine p12_3 X I (k := 123) (by decide) rfl lf_X12_115 dX12_clause_229 (fun H locs I => ?_)
                              refine lv_aload_n X.1 X.2.1 dX12_clause_232 rfl (lv_at hl 2 rfl) ?_
                              refine g12_11 X I (k := 123) (by decide) rfl lf_X12_28 dX12_clause_233 ?_
                              refine lv_iload_n X.1 X.2.1 dX12_clause_236 rfl (lv_at hl 1 rfl) ?_
                              refine lv_aload_n X.1 X.2.1 dX12_clause_237 rfl (lv_at hl 2 rfl) ?_
                              refine g12_8 X I (k := 123) (by decide) rfl lf_X12_19 dX12_clause_238 ?_
                              refine lv_aload_n X.1 X.2.1 dX12_clause_241 rfl (lv_at hl 2 rfl) ?_
                              refine g12_14 X I (k := 123) (by decide) rfl lf_X12_125 dX12_clause_242 ?_
                              have ho569 := ho.1
                              have ho := ho.2
                              refine r_ald X I (k := 127) (n := 5) (by decide) rfl ho569 dX12_clause_245 ?_
                              have ho570 := ho.1
                              have ho := ho.2
                              refine r_ast X I (k := 130) (n := 700) (by decide) rfl ho570 dX12_clause_246 (fun H locs I => ?_)
                              refine lv_aload_n X.1 X.2.1 dX12_clause_247 rfl (lv_at hl 2 rfl) ?_
                              have ho571 := ho.1
                              have ho := ho.2
                              refine r_ev I (r_runV X I pk_X12_sum (c12_sumR l G _ _ ho571) lm_X12_155 (by decide) (cl_12 rfl) rfl rfl rfl hl.1 rfl (Nat.le_of_ble_eq_true rfl) dX12_clause_248 ⟨Nat.le_of_ble_eq_true rfl, Nat.le_of_ble_eq_true rfl⟩ ⟨Nat.le_refl 0, Nat.le_refl 0⟩) (fun H locs I => ?_)
                              refine lv_aload_n X.1 X.2.1 dX12_clause_251 rfl (lv_at hl 2 rfl) ?_
                              refine g12_12 X I (k := 123) (by decide) rfl lf_X12_31 dX12_clause_252 ?_
                              refine lv_iload_n X.1 X.2.1 dX12_clause_255 rfl (lv_at hl 1 rfl) ?_
                              refine lv_aload_n X.1 X.2.1 dX12_clause_256 rfl (lv_at hl 2 rfl) ?_
                              refine g12_8 X I (k := 123) (by decide) rfl lf_X12_19 dX12_clause_257 ?_
                              refine lv_aload_n X.1 X.2.1 dX12_clause_260 rfl (lv_at hl 2 rfl) ?_
                              refine g12_14 X I (k := 123) (by decide) rfl lf_X12_125 dX12_clause_261 ?_
                              have ho572 := ho.1
                              have ho := ho.2
                              refine r_ald X I (k := 127) (n := 5) (by decide) rfl ho572 dX12_clause_264 ?_
                              have ho573 := ho.1
                              have ho := ho.2
                              refine r_ast X I (k := 131) (n := 700) (by decide) rfl ho573 dX12_clause_265 (fun H locs I => ?_)
                              refine lv_aload_n X.1 X.2.1 dX12_clause_266 rfl (lv_at hl 2 rfl) ?_
                              refine g12_9 X I (k := 123) (by decide) rfl lf_X12_22 dX12_clause_267 ?_
                              refine lv_aload_n X.1 X.2.1 dX12_clause_270 rfl (lv_at hl 2 rfl) ?_
                              refine g12_14 X I (k := 123) (by decide) rfl lf_X12_125 dX12_clause_271 ?_
                              refine lv_dup2_11 X.1 X.2.1 dX12_clause_274 rfl rfl ?_
                              have ho574 := ho.1
                              have ho := ho.2
                              refine r_ald X I (k := 128) (n := 5) (by decide) rfl ho574 dX12_clause_275 ?_
                              refine lv_iconst (v := 1) X.1 X.2.1 dX12_clause_276 (by decide) ?_
                              refine lv_iadd X.1 X.2.1 dX12_clause_277 ?_
                              have ho575 := ho.1
                              have ho := ho.2
                              refine r_ast X I (k := 128) (n := 5) (by decide) rfl ho575 dX12_clause_278 (fun H locs I => ?_)
                              have h9 := hE
                              exact r_vret X I (e_v h9.symm rfl) dX12_clause_279
                            · skip
                              have hE := ite_f hE c_202
                              have ho := ite_fP ho c_202
                              refine lv_aload_n X.1 X.2.1 dX12_clause_217 rfl (lv_at hl 2 rfl) ?_
                              refine r_ev I (r_runV X I pk_X12_bad (c12_bad l G _ _) lm_X12_131 (by decide) (cl_12 rfl) rfl rfl rfl hl.1 rfl (Nat.le_of_ble_eq_true rfl) dX12_clause_218 ⟨Nat.le_of_ble_eq_true rfl, Nat.le_of_ble_eq_true rfl⟩ ⟨Nat.le_refl 0, Nat.le_refl 0⟩) (fun H locs I => ?_)
                              have h9 := hE
                              exact r_vret X I (e_v h9.symm rfl) dX12_clause_221
                · exact absurd c_192 (by decide)
              · skip
                have hE := ite_t hE c_191
                have ho := ite_tP ho c_191
                refine lv_iconst (v := 1) X.1 X.2.1 dX12_clause_123 (by decide) ?_
                refine lv_goto (tgt := 128) X.1 X.2.1 dX12_clause_124 (by decide) ?_
                refine lv_istore_n (lv' := [(2, .int _), (1, .int _), (0, .ref _)]) X.1 X.2.1 dX12_clause_128 rfl hl (by decide) rfl (fun ls hl => ?_)
                refine lv_iload_n X.1 X.2.1 dX12_clause_129 rfl (lv_at hl 0 rfl) ?_
                refine lv_if_eq (tgt := 140) X.1 X.2.1 dX12_clause_130 (by decide) (fun c_203 => ?_) (fun c_203 => ?_)
                · exact absurd c_203 (by decide)
                · skip
                  refine lv_aload_n X.1 X.2.1 dX12_clause_133 rfl (lv_at hl 2 rfl) ?_
                  have ho576 := ho.1
                  have ho := ho.2
                  refine r_ev I (r_runV X I pk_X12_condition (c12_conditionR l G _ _ ho576) lm_X12_174 (by decide) (cl_12 rfl) rfl rfl rfl hl.1 rfl (Nat.le_of_ble_eq_true rfl) dX12_clause_134 ⟨Nat.le_of_ble_eq_true rfl, Nat.le_of_ble_eq_true rfl⟩ ⟨Nat.le_refl 0, Nat.le_refl 0⟩) (fun H locs I => ?_)
                  refine lv_goto (tgt := 184) X.1 X.2.1 dX12_clause_137 (by decide) ?_
                  refine lv_aload_n X.1 X.2.1 dX12_clause_184 rfl (lv_at hl 2 rfl) ?_
                  refine g12_11 X I (k := 123) (by decide) rfl lf_X12_28 dX12_clause_185 ?_
                  refine lv_iload_n X.1 X.2.1 dX12_clause_188 rfl (lv_at hl 1 rfl) ?_
                  refine lv_aload_n X.1 X.2.1 dX12_clause_189 rfl (lv_at hl 2 rfl) ?_
                  refine g12_10 X I (k := 123) (by decide) rfl lf_X12_25 dX12_clause_190 ?_
                  refine lv_iload_n X.1 X.2.1 dX12_clause_193 rfl (lv_at hl 1 rfl) ?_
                  have ho577 := ho.1
                  have ho := ho.2
                  refine r_ald X I (k := 129) (n := 700) (by decide) rfl ho577 dX12_clause_194 ?_
                  have ho578 := ho.1
                  have ho := ho.2
                  refine r_ast X I (k := 130) (n := 700) (by decide) rfl ho578 dX12_clause_195 (fun H locs I => ?_)
                  refine lv_iload_n X.1 X.2.1 dX12_clause_196 rfl (lv_at hl 0 rfl) ?_
                  refine lv_if_eq (tgt := 251) X.1 X.2.1 dX12_clause_197 (by decide) (fun c_204 => ?_) (fun c_204 => ?_)
                  · exact absurd c_204 (by decide)
                  · skip
                    refine lv_aload_n X.1 X.2.1 dX12_clause_200 rfl (lv_at hl 2 rfl) ?_
                    refine g12_4 X I (k := 123) (by decide) rfl lf_X12_122 dX12_clause_201 ?_
                    refine lv_iconst (v := (-1)) X.1 X.2.1 dX12_clause_204 (by decide) ?_
                    refine lv_icmp_ne (tgt := 251) X.1 X.2.1 dX12_clause_205 (by decide) (fun c_205 => ?_) (fun c_205 => ?_)
                    · skip
                      have hE := ite_f hE c_205
                      have ho := ite_fP ho c_205
                      refine lv_aload_n X.1 X.2.1 dX12_clause_251 rfl (lv_at hl 2 rfl) ?_
                      refine g12_12 X I (k := 123) (by decide) rfl lf_X12_31 dX12_clause_252 ?_
                      refine lv_iload_n X.1 X.2.1 dX12_clause_255 rfl (lv_at hl 1 rfl) ?_
                      refine lv_aload_n X.1 X.2.1 dX12_clause_256 rfl (lv_at hl 2 rfl) ?_
                      refine g12_8 X I (k := 123) (by decide) rfl lf_X12_19 dX12_clause_257 ?_
                      refine lv_aload_n X.1 X.2.1 dX12_clause_260 rfl (lv_at hl 2 rfl) ?_
                      refine g12_14 X I (k := 123) (by decide) rfl lf_X12_125 dX12_clause_261 ?_
                      have ho579 := ho.1
                      have ho := ho.2
                      refine r_ald X I (k := 127) (n := 5) (by decide) rfl ho579 dX12_clause_264 ?_
                      have ho580 := ho.1
                      have ho := ho.2
                      refine r_ast X I (k := 131) (n := 700) (by decide) rfl ho580 dX12_clause_265 (fun H locs I => ?_)
                      refine lv_aload_n X.1 X.2.1 dX12_clause_266 rfl (lv_at hl 2 rfl) ?_
                      refine g12_9 X I (k := 123) (by decide) rfl lf_X12_22 dX12_clause_267 ?_
                      refine lv_aload_n X.1 X.2.1 dX12_clause_270 rfl (lv_at hl 2 rfl) ?_
                      refine g12_14 X I (k := 123) (by decide) rfl lf_X12_125 dX12_clause_271 ?_
                      refine lv_dup2_11 X.1 X.2.1 dX12_clause_274 rfl rfl ?_
                      have ho581 := ho.1
                      have ho := ho.2
                      refine r_ald X I (k := 128) (n := 5) (by decide) rfl ho581 dX12_clause_275 ?_
                      refine lv_iconst (v := 1) X.1 X.2.1 dX12_clause_276 (by decide) ?_
                      refine lv_iadd X.1 X.2.1 dX12_clause_277 ?_
                      have ho582 := ho.1
                      have ho := ho.2
                      refine r_ast X I (k := 128) (n := 5) (by decide) rfl ho582 dX12_clause_278 (fun H locs I => ?_)
                      have h9 := hE
                      exact r_vret X I (e_v h9.symm rfl) dX12_clause_279
                    · skip
                      have hE := ite_t hE c_205
                      have ho := ite_tP ho c_205
                      refine lv_aload_n X.1 X.2.1 dX12_clause_208 rfl (lv_at hl 2 rfl) ?_
                      have ho583 := ho.1
                      have ho := ho.2
                      refine r_ei I (r_runV X I pk_X12_look (c12_look l G _ _ ho583) lm_X12_134 (by decide) (cl_12 rfl) rfl rfl rfl hl.1 rfl (Nat.le_of_ble_eq_true rfl) dX12_clause_209 ⟨Nat.le_of_ble_eq_true rfl, Nat.le_of_ble_eq_true rfl⟩ ⟨Nat.le_refl 0, Nat.le_refl 0⟩) (fun H locs I => ?_)
                      refine lv_bipush (v := 63) X.1 X.2.1 dX12_clause_212 (by decide) ?_
                      refine lv_icmp_eq (tgt := 222) X.1 X.2.1 dX12_clause_214 (by decide) (fun c_206 => ?_) (fun c_206 => ?_)
                      · skip
                        have hE := ite_t hE c_206
                        have ho := ite_tP ho c_206
                        refine lv_aload_n X.1 X.2.1 dX12_clause_222 rfl (lv_at hl 2 rfl) ?_
                        refine lv_dup X.1 X.2.1 dX12_clause_223 rfl ?_
                        refine g12_3 X I (k := 123) (by decide) rfl lf_X12_115 dX12_clause_224 ?_
                        refine lv_iconst (v := 1) X.1 X.2.1 dX12_clause_227 (by decide) ?_
                        refine lv_iadd X.1 X.2.1 dX12_clause_228 ?_
                        refine p12_3 X I (k := 123) (by decide) rfl lf_X12_115 dX12_clause_229 (fun H locs I => ?_)
                        refine lv_aload_n X.1 X.2.1 dX12_clause_232 rfl (lv_at hl 2 rfl) ?_
                        refine g12_11 X I (k := 123) (by decide) rfl lf_X12_28 dX12_clause_233 ?_
                        refine lv_iload_n X.1 X.2.1 dX12_clause_236 rfl (lv_at hl 1 rfl) ?_
                        refine lv_aload_n X.1 X.2.1 dX12_clause_237 rfl (lv_at hl 2 rfl) ?_
                        refine g12_8 X I (k := 123) (by decide) rfl lf_X12_19 dX12_clause_238 ?_
                        refine lv_aload_n X.1 X.2.1 dX12_clause_241 rfl (lv_at hl 2 rfl) ?_
                        refine g12_14 X I (k := 123) (by decide) rfl lf_X12_125 dX12_clause_242 ?_
                        have ho584 := ho.1
                        have ho := ho.2
                        refine r_ald X I (k := 127) (n := 5) (by decide) rfl ho584 dX12_clause_245 ?_
                        have ho585 := ho.1
                        have ho := ho.2
                        refine r_ast X I (k := 130) (n := 700) (by decide) rfl ho585 dX12_clause_246 (fun H locs I => ?_)
                        refine lv_aload_n X.1 X.2.1 dX12_clause_247 rfl (lv_at hl 2 rfl) ?_
                        have ho586 := ho.1
                        have ho := ho.2
                        refine r_ev I (r_runV X I pk_X12_sum (c12_sumR l G _ _ ho586) lm_X12_155 (by decide) (cl_12 rfl) rfl rfl rfl hl.1 rfl (Nat.le_of_ble_eq_true rfl) dX12_clause_248 ⟨Nat.le_of_ble_eq_true rfl, Nat.le_of_ble_eq_true rfl⟩ ⟨Nat.le_refl 0, Nat.le_refl 0⟩) (fun H locs I => ?_)
                        refine lv_aload_n X.1 X.2.1 dX12_clause_251 rfl (lv_at hl 2 rfl) ?_
                        refine g12_12 X I (k := 123) (by decide) rfl lf_X12_31 dX12_clause_252 ?_
                        refine lv_iload_n X.1 X.2.1 dX12_clause_255 rfl (lv_at hl 1 rfl) ?_
                        refine lv_aload_n X.1 X.2.1 dX12_clause_256 rfl (lv_at hl 2 rfl) ?_
                        refine g12_8 X I (k := 123) (by decide) rfl lf_X12_19 dX12_clause_257 ?_
                        refine lv_aload_n X.1 X.2.1 dX12_clause_260 rfl (lv_at hl 2 rfl) ?_
                        refine g12_14 X I (k := 123) (by decide) rfl lf_X12_125 dX12_clause_261 ?_
                        have ho587 := ho.1
                        have ho := ho.2
                        refine r_ald X I (k := 127) (n := 5) (by decide) rfl ho587 dX12_clause_264 ?_
                        have ho588 := ho.1
                        have ho := ho.2
                        refine r_ast X I (k := 131) (n := 700) (by decide) rfl ho588 dX12_clause_265 (fun H locs I => ?_)
                        refine lv_aload_n X.1 X.2.1 dX12_clause_266 rfl (lv_at hl 2 rfl) ?_
                        refine g12_9 X I (k := 123) (by decide) rfl lf_X12_22 dX12_clause_267 ?_
                        refine lv_aload_n X.1 X.2.1 dX12_clause_270 rfl (lv_at hl 2 rfl) ?_
                        refine g12_14 X I (k := 123) (by decide) rfl lf_X12_125 dX12_clause_271 ?_
                        refine lv_dup2_11 X.1 X.2.1 dX12_clause_274 rfl rfl ?_
                        have ho589 := ho.1
                        have ho := ho.2
                        refine r_ald X I (k := 128) (n := 5) (by decide) rfl ho589 dX12_clause_275 ?_
                        refine lv_iconst (v := 1) X.1 X.2.1 dX12_clause_276 (by decide) ?_
                        refine lv_iadd X.1 X.2.1 dX12_clause_277 ?_
                        have ho590 := ho.1
                        have ho := ho.2
                        refine r_ast X I (k := 128) (n := 5) (by decide) rfl ho590 dX12_clause_278 (fun H locs I => ?_)
                        have h9 := hE
                        exact r_vret X I (e_v h9.symm rfl) dX12_clause_279
                      · skip
                        have hE := ite_f hE c_206
                        have ho := ite_fP ho c_206
                        refine lv_aload_n X.1 X.2.1 dX12_clause_217 rfl (lv_at hl 2 rfl) ?_
                        refine r_ev I (r_runV X I pk_X12_bad (c12_bad l G _ _) lm_X12_131 (by decide) (cl_12 rfl) rfl rfl rfl hl.1 rfl (Nat.le_of_ble_eq_true rfl) dX12_clause_218 ⟨Nat.le_of_ble_eq_true rfl, Nat.le_of_ble_eq_true rfl⟩ ⟨Nat.le_refl 0, Nat.le_refl 0⟩) (fun H locs I => ?_)
                        have h9 := hE
                        exact r_vret X I (e_v h9.symm rfl) dX12_clause_221
          · skip
            have hE := ite_f hE c_185
            have ho := ite_fP ho c_185
            have h9 := hE
            exact r_vret X I (e_v h9.symm rfl) dX12_clause_89
