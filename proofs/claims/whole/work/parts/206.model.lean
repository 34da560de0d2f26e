noncomputable def f12_open (σ : SI) (x1 : Int32) : SI := let s0 := sp σ 123 14 x1; let s1 := sp s0 123 3 (0 : Int32); let s2 := sp s1 123 4 (-1 : Int32); let s3 := sp s2 123 5 (0 : Int32); let s4 := sp s3 127 (Int32.toNatClampNeg x1) (0 : Int32); let s5 := sp s4 128 (Int32.toNatClampNeg x1) (0 : Int32); s5
noncomputable def o12_open (σ : SI) (x1 : Int32) : Prop := let s0 := sp σ 123 14 x1; let s1 := sp s0 123 3 (0 : Int32); let s2 := sp s1 123 4 (-1 : Int32); let s3 := sp s2 123 5 (0 : Int32); (vp_in x1 5) ∧ (let s4 := sp s3 127 (Int32.toNatClampNeg x1) (0 : Int32); (vp_in x1 5) ∧ (let s5 := sp s4 128 (Int32.toNatClampNeg x1) (0 : Int32); True))
theorem w_f12_open (σ : SI) (x1 : Int32) (a : Nat) (h0 : a ≠ 123) (h1 : a ≠ 127) (h2 : a ≠ 128) : (f12_open σ x1) a = σ a := by
  unfold f12_open
  exact ((sp_n h2).trans ((sp_n h1).trans ((sp_n h0).trans ((sp_n h0).trans ((sp_n h0).trans (sp_n h0))))))
set_option maxHeartbeats 4000000 in
set_option maxRecDepth 100000 in
theorem c12_open (l : Launch) (G : GT) (σ : SI) (τ : SL) (x1 : Int32) (ho : o12_open σ x1) : Mc l yX12_open cX12_open 2 none 0 G [.ref (G.2.1 123), .int x1] σ τ (Qv G (Ev (f12_open σ x1) τ)) := by
  refine m_start (by decide +kernel) (Nat.le_of_ble_eq_true rfl) rfl (fun p e s m args below meth c ls X I hl => ?_)
  have hl : lv_has ls 2 [(0, .ref (G.2.1 123)), (1, .int x1)] := hl
  obtain ⟨E, hE⟩ : ∃ E, E = (f12_open σ x1) := ⟨_, rfl⟩
  rw [← hE]
  unfold o12_open at ho
  refine lv_aload_n X.1 X.2.1 dX12_open_0 rfl (lv_at hl 0 rfl) ?_
  refine lv_iload_n X.1 X.2.1 dX12_open_1 rfl (lv_at hl 1 rfl) ?_
  refine p12_14 X I (k := 123) (by decide) rfl lf_X12_125 dX12_open_2 (fun H locs I => ?_)
  refine lv_aload_n X.1 X.2.1 dX12_open_5 rfl (lv_at hl 0 rfl) ?_
  refine lv_iconst (v := 0) X.1 X.2.1 dX12_open_6 (by decide) ?_
  refine p12_3 X I (k := 123) (by decide) rfl lf_X12_115 dX12_open_7 (fun H locs I => ?_)
  refine lv_aload_n X.1 X.2.1 dX12_open_10 rfl (lv_at hl 0 rfl) ?_
  refine lv_iconst (v := (-1)) X.1 X.2.1 dX12_open_11 (by decide) ?_
  refine p12_4 X I (k := 123) (by decide) rfl lf_X12_122 dX12_open_12 (fun H locs I => ?_)
  refine lv_aload_n X.1 X.2.1 dX12_open_15 rfl (lv_at hl 0 rfl) ?_
  refine lv_iconst (v := 0) X.1 X.2.1 dX12_open_16 (by decide) ?_
  refine p12_5 X I (k := 123) (by decide) rfl lf_X12_128 dX12_open_17 (fun H locs I => ?_)
  refine lv_aload_n X.1 X.2.1 dX12_open_20 rfl (lv_at hl 0 rfl) ?_
  refine g12_8 X I (k := 123) (by decide) rfl lf_X12_19 dX12_open_21 ?_
  refine lv_iload_n X.1 X.2.1 dX12_open_24 rfl (lv_at hl 1 rfl) ?_
  refine lv_iconst (v := 0) X.1 X.2.1 dX12_open_25 (by decide) ?_
  have ho1 := ho.1
  have ho := ho.2
  refine r_ast X I (k := 127) (n := 5) (by decide) rfl ho1 dX12_open_26 (fun H locs I => ?_)
  refine lv_aload_n X.1 X.2.1 dX12_open_27 rfl (lv_at hl 0 rfl) ?_
  refine g12_9 X I (k := 123) (by decide) rfl lf_X12_22 dX12_open_28 ?_
  refine lv_iload_n X.1 X.2.1 dX12_open_31 rfl (lv_at hl 1 rfl) ?_
  refine lv_iconst (v := 0) X.1 X.2.1 dX12_open_32 (by decide) ?_
  have ho2 := ho.1
  have ho := ho.2
  refine r_ast X I (k := 128) (n := 5) (by decide) rfl ho2 dX12_open_33 (fun H locs I => ?_)
  have h9 := hE
  exact r_vret X I (e_v h9.symm rfl) dX12_open_34
noncomputable def f12_atEnd (σ : SI) : Int32 × SI := if (σ 123 4) = (-1 : Int32) then (let r0 := (f12_look σ); if r0.1 = (-1 : Int32) then ((r0.2 123 4), r0.2) else (let s1 := (f12_bad r0.2); ((s1 123 4), s1))) else ((σ 123 4), σ)
noncomputable def o12_atEnd (σ : SI) : Prop := if (σ 123 4) = (-1 : Int32) then ((o12_look σ) ∧ (let r0 := (f12_look σ); if r0.1 = (-1 : Int32) then True else (let s1 := (f12_bad r0.2); True))) else True
theorem w_f12_atEnd (σ : SI) (a : Nat) (h0 : a ≠ 123) : (f12_atEnd σ).2 a = σ a := by
  refine fp_to2 ?_
  unfold f12_atEnd
  exact (fr_ite2 (fr_ite2 (fr_mk21 (w_f12_look _ a h0)) (fr_mk21 ((w_f12_bad _ a h0).trans (w_f12_look _ a h0)))) (fr_mk21 rfl))
set_option maxHeartbeats 4000000 in
set_option maxRecDepth 100000 in
theorem c12_atEnd (l : Launch) (G : GT) (σ : SI) (τ : SL) (ho : o12_atEnd σ) : Mc l yX12_atEnd cX12_atEnd 1 (some .int) 2 G [.ref (G.2.1 123)] σ τ (Qi G (Ei (f12_atEnd σ).1 (f12_atEnd σ).2 τ)) := by
  refine m_start (by decide +kernel) (Nat.le_of_ble_eq_true rfl) rfl (fun p e s m args below meth c ls X I hl => ?_)
  have hl : lv_has ls 1 [(0, .ref (G.2.1 123))] := hl
  obtain ⟨E, hE⟩ : ∃ E, E = (f12_atEnd σ) := ⟨_, rfl⟩
  rw [← hE]
  unfold o12_atEnd at ho
  refine lv_aload_n X.1 X.2.1 dX12_atEnd_0 rfl (lv_at hl 0 rfl) ?_
  refine g12_4 X I (k := 123) (by decide) rfl lf_X12_122 dX12_atEnd_1 ?_
  refine lv_iconst (v := (-1)) X.1 X.2.1 dX12_atEnd_4 (by decide) ?_
  refine lv_icmp_ne (tgt := 20) X.1 X.2.1 dX12_atEnd_5 (by decide) (fun c_1 => ?_) (fun c_1 => ?_)
  · skip
    have hE := ite_f hE c_1
    have ho := ite_fP ho c_1
    refine lv_aload_n X.1 X.2.1 dX12_atEnd_20 rfl (lv_at hl 0 rfl) ?_
    refine g12_4 X I (k := 123) (by decide) rfl lf_X12_122 dX12_atEnd_21 ?_
    have h9 := hE
    exact r_iret X I (e_i (pr_fst h9) (pr_snd h9) rfl) dX12_atEnd_24
  · skip
    have hE := ite_t hE c_1
    have ho := ite_tP ho c_1
    refine lv_aload_n X.1 X.2.1 dX12_atEnd_8 rfl (lv_at hl 0 rfl) ?_
    have ho1 := ho.1
    have ho := ho.2
    refine r_ei I (r_runV X I pk_X12_look (c12_look l G _ _ ho1) lm_X12_134 (by decide) (cl_12 rfl) rfl rfl rfl hl.1 rfl (Nat.le_of_ble_eq_true rfl) dX12_atEnd_9 ⟨Nat.le_of_ble_eq_true rfl, Nat.le_of_ble_eq_true rfl⟩ ⟨Nat.le_refl 0, Nat.le_refl 0⟩) (fun H locs I => ?_)
    refine lv_iconst (v := (-1)) X.1 X.2.1 dX12_atEnd_12 (by decide) ?_
    refine lv_icmp_eq (tgt := 20) X.1 X.2.1 dX12_atEnd_13 (by decide) (fun c_2 => ?_) (fun c_2 => ?_)
    · skip
      have hE := ite_t hE c_2
      have ho := ite_tP ho c_2
      refine lv_aload_n X.1 X.2.1 dX12_atEnd_20 rfl (lv_at hl 0 rfl) ?_
      refine g12_4 X I (k := 123) (by decide) rfl lf_X12_122 dX12_atEnd_21 ?_
      have h9 := hE
      exact r_iret X I (e_i (pr_fst h9) (pr_snd h9) rfl) dX12_atEnd_24
    · skip
      have hE := ite_f hE c_2
      have ho := ite_fP ho c_2
      refine lv_aload_n X.1 X.2.1 dX12_atEnd_16 rfl (lv_at hl 0 rfl) ?_
      refine r_ev I (r_runV X I pk_X12_bad (c12_bad l G _ _) lm_X12_131 (by decide) (cl_12 rfl) rfl rfl rfl hl.1 rfl (Nat.le_of_ble_eq_true rfl) dX12_atEnd_17 ⟨Nat.le_of_ble_eq_true rfl, Nat.le_of_ble_eq_true rfl⟩ ⟨Nat.le_refl 0, Nat.le_refl 0⟩) (fun H locs I => ?_)
      refine lv_aload_n X.1 X.2.1 dX12_atEnd_20 rfl (lv_at hl 0 rfl) ?_
      refine g12_4 X I (k := 123) (by decide) rfl lf_X12_122 dX12_atEnd_21 ?_
      have h9 := hE
      exact r_iret X I (e_i (pr_fst h9) (pr_snd h9) rfl) dX12_atEnd_24
noncomputable def f12_readLaw_c9 (x1 : Int32) : Nat → SI → (Int32 × SI)
  | 0, σ => (0, σ)
  | fu + 1, σ => if (σ 123 4) = (-1 : Int32) then (let r3 := (f12_look σ); if r3.1 = (59 : Int32) then (let s5 := sp r3.2 123 3 ((r3.2 123 3) + (1 : Int32)); let s6 := (f12_clause s5); (f12_readLaw_c9 x1 fu s6)) else (let r4 := (f12_atEnd r3.2); r4)) else (let r2 := (f12_atEnd σ); r2)
noncomputable def o12_readLaw_c9 (x1 : Int32) : Nat → SI → Prop
  | 0, _ => False
  | fu + 1, σ => if (σ 123 4) = (-1 : Int32) then ((o12_look σ) ∧ (let r3 := (f12_look σ); if r3.1 = (59 : Int32) then (let s5 := sp r3.2 123 3 ((r3.2 123 3) + (1 : Int32)); (o12_clause s5) ∧ (let s6 := (f12_clause s5); (o12_readLaw_c9 x1 fu s6))) else ((o12_atEnd r3.2) ∧ (let r4 := (f12_atEnd r3.2); True)))) else ((o12_atEnd σ) ∧ (let r2 := (f12_atEnd σ); True))
noncomputable def f12_readLaw (σ : SI) (x1 : Int32) : Int32 × SI := let s0 := (f12_open σ x1); let s1 := (f12_clause s0); (f12_readLaw_c9 x1 (fu1 ((Int32.toInt (s1 123 2) - Int32.toInt (s1 123 3)).toNat + 1)) s1)
noncomputable def o12_readLaw (σ : SI) (x1 : Int32) : Prop := (o12_open σ x1) ∧ (let s0 := (f12_open σ x1); (o12_clause s0) ∧ (let s1 := (f12_clause s0); (o12_readLaw_c9 x1 (fu1 ((Int32.toInt (s1 123 2) - Int32.toInt (s1 123 3)).toNat + 1)) s1)))
theorem w_f12_readLaw_c9 (x1 : Int32) (a : Nat) (h0 : a ≠ 123) (h1 : a ≠ 125) (h2 : a ≠ 126) (h3 : a ≠ 127) (h4 : a ≠ 128) (h5 : a ≠ 129) (h6 : a ≠ 130) (h7 : a ≠ 131) : ∀ (fu : Nat) (σ : SI), (f12_readLaw_c9 x1 fu σ).2 a = σ a := by
  intro fu
  induction fu with
  | zero => intro σ; exact rfl
  | succ fu ih =>
    intro σ
    refine fp_to2 ?_
    unfold f12_readLaw_c9
    exact (fr_ite2 (fr_ite2 (fp_of2 (((ih _).trans ((w_f12_clause _ a h0 h1 h2 h3 h4 h5 h6 h7).trans ((sp_n h0).trans (w_f12_look _ a h0)))))) ((w_f12_atEnd _ a h0).trans (w_f12_look _ a h0))) (w_f12_atEnd _ a h0))
theorem w_f12_readLaw (σ : SI) (x1 : Int32) (a : Nat) (h0 : a ≠ 123) (h1 : a ≠ 125) (h2 : a ≠ 126) (h3 : a ≠ 127) (h4 : a ≠ 128) (h5 : a ≠ 129) (h6 : a ≠ 130) (h7 : a ≠ 131) : (f12_readLaw σ x1).2 a = σ a := by
  refine fp_to2 ?_
  unfold f12_readLaw
  exact (fp_of2 (((w_f12_readLaw_c9 _ a h0 h1 h2 h3 h4 h5 h6 h7 _ _).trans ((w_f12_clause _ a h0 h1 h2 h3 h4 h5 h6 h7).trans (w_f12_open _ _ a h0 h3 h4)))))
set_option maxHeartbeats 4000000 in
set_option maxRecDepth 100000 in
theorem c12_readLaw_c9 {l : Launch} {p : Program} {e : Env} {s : State} {m : MethodId} {args : Array Value} {below : List Frame} {meth : Method} {c : Code} {G : GT} (X : CX p s m args meth c cX12_readLaw RX12 2 (some .int) G) {E : Int32 × SI} (τ : SL) (x1 : Int32) : ∀ (fu : Nat) (σ : SI) (H : Heap) (locs : List Loc) (ls : Array Slot), IX G s H locs σ τ → lv_has ls 2 [(0, .ref (G.2.1 123)), (1, .int x1)] → (o12_readLaw_c9 x1 fu σ) → E = (f12_readLaw_c9 x1 fu σ) → W p l e (rmN 97) s m args below meth c H locs 0 0 (MQ below ((Qi G (Ei E.1 E.2 τ)) s.heap.size) args s 0 0 (AW G s.heap.size)) (F0 m 9 ls []) := by
  intro fu
  induction fu with
  | zero =>
    intro σ H locs ls I hl  ho hE
    unfold o12_readLaw_c9 at ho
    exact ho.elim
  | succ fu ih =>
    intro σ H locs ls I hl  ho hE
    unfold o12_readLaw_c9 at ho
    refine lv_aload_n X.1 X.2.1 dX12_readLaw_9 rfl (lv_at hl 0 rfl) ?_
    refine g12_4 X I (k := 123) (by decide) rfl lf_X12_122 dX12_readLaw_10 ?_
    refine lv_iconst (v := (-1)) X.1 X.2.1 dX12_readLaw_13 (by decide) ?_
    refine lv_icmp_ne (tgt := 43) X.1 X.2.1 dX12_readLaw_14 (by decide) (fun c_1 => ?_) (fun c_1 => ?_)
    · skip
      have hE := ite_f hE c_1
      have ho := ite_fP ho c_1
      refine lv_aload_n X.1 X.2.1 dX12_readLaw_43 rfl (lv_at hl 0 rfl) ?_
      have ho3 := ho.1
      have ho := ho.2
      refine r_ei I (r_runV X I pk_X12_atEnd (c12_atEnd l G _ _ ho3) lm_X12_192 (by decide) (cl_12 rfl) rfl rfl rfl hl.1 rfl (Nat.le_of_ble_eq_true rfl) dX12_readLaw_44 ⟨Nat.le_of_ble_eq_true rfl, Nat.le_of_ble_eq_true rfl⟩ ⟨Nat.le_refl 0, Nat.le_refl 0⟩) (fun H locs I => ?_)
      have h9 := hE
      exact r_iret X I (e_i (congrArg Prod.fst h9).symm (congrArg Prod.snd h9).symm rfl) dX12_readLaw_47
    · skip
      have hE := ite_t hE c_1
      have ho := ite_tP ho c_1
      refine lv_aload_n X.1 X.2.1 dX12_readLaw_17 rfl (lv_at hl 0 rfl) ?_
      have ho4 := ho.1
      have ho := ho.2
      refine r_ei I (r_runV X I pk_X12_look (c12_look l G _ _ ho4) lm_X12_134 (by decide) (cl_12 rfl) rfl rfl rfl hl.1 rfl (Nat.le_of_ble_eq_true rfl) dX12_readLaw_18 ⟨Nat.le_of_ble_eq_true rfl, Nat.le_of_ble_eq_true rfl⟩ ⟨Nat.le_refl 0, Nat.le_refl 0⟩) (fun H locs I => ?_)
      refine lv_bipush (v := 59) X.1 X.2.1 dX12_readLaw_21 (by decide) ?_
      refine lv_icmp_ne (tgt := 43) X.1 X.2.1 dX12_readLaw_23 (by decide) (fun c_2 => ?_) (fun c_2 => ?_)
      · skip
        have hE := ite_f hE c_2
        have ho := ite_fP ho c_2
        refine lv_aload_n X.1 X.2.1 dX12_readLaw_43 rfl (lv_at hl 0 rfl) ?_
        have ho5 := ho.1
        have ho := ho.2
        refine r_ei I (r_runV X I pk_X12_atEnd (c12_atEnd l G _ _ ho5) lm_X12_192 (by decide) (cl_12 rfl) rfl rfl rfl hl.1 rfl (Nat.le_of_ble_eq_true rfl) dX12_readLaw_44 ⟨Nat.le_of_ble_eq_true rfl, Nat.le_of_ble_eq_true rfl⟩ ⟨Nat.le_refl 0, Nat.le_refl 0⟩) (fun H locs I => ?_)
        have h9 := hE
        exact r_iret X I (e_i (congrArg Prod.fst h9).symm (congrArg Prod.snd h9).symm rfl) dX12_readLaw_47
      · skip
        have hE := ite_t hE c_2
        have ho := ite_tP ho c_2
        refine lv_aload_n X.1 X.2.1 dX12_readLaw_26 rfl (lv_at hl 0 rfl) ?_
        refine lv_dup X.1 X.2.1 dX12_readLaw_27 rfl ?_
        refine g12_3 X I (k := 123) (by decide) rfl lf_X12_115 dX12_readLaw_28 ?_
        refine lv_iconst (v := 1) X.1 X.2.1 dX12_readLaw_31 (by decide) ?_
        refine lv_iadd X.1 X.2.1 dX12_readLaw_32 ?_
        refine p12_3 X I (k := 123) (by decide) rfl lf_X12_115 dX12_readLaw_33 (fun H locs I => ?_)
        refine lv_aload_n X.1 X.2.1 dX12_readLaw_36 rfl (lv_at hl 0 rfl) ?_
        have ho6 := ho.1
        have ho := ho.2
        refine r_ev I (r_runV X I pk_X12_clause (c12_clause l G _ _ ho6) lm_X12_189 (by decide) (cl_12 rfl) rfl rfl rfl hl.1 rfl (Nat.le_of_ble_eq_true rfl) dX12_readLaw_37 ⟨Nat.le_of_ble_eq_true rfl, Nat.le_of_ble_eq_true rfl⟩ ⟨Nat.le_refl 0, Nat.le_refl 0⟩) (fun H locs I => ?_)
        refine lv_goto (tgt := 9) X.1 X.2.1 dX12_readLaw_40 (by decide) ?_
        exact ih _ _ _ _ I (lv_sub hl [0, 1] rfl) ho (hE.trans (rfl))
set_option maxHeartbeats 4000000 in
set_option maxRecDepth 100000 in
theorem c12_readLaw (l : Launch) (G : GT) (σ : SI) (τ : SL) (x1 : Int32) (ho : o12_readLaw σ x1) : Mc l yX12_readLaw cX12_readLaw 2 (some .int) 97 G [.ref (G.2.1 123), .int x1] σ τ (Qi G (Ei (f12_readLaw σ x1).1 (f12_readLaw σ x1).2 τ)) := by
  refine m_start (by decide +kernel) (Nat.le_of_ble_eq_true rfl) rfl (fun p e s m args below meth c ls X I hl => ?_)
  have hl : lv_has ls 2 [(0, .ref (G.2.1 123)), (1, .int x1)] := hl
  obtain ⟨E, hE⟩ : ∃ E, E = (f12_readLaw σ x1) := ⟨_, rfl⟩
  rw [← hE]
  unfold o12_readLaw at ho
  refine lv_aload_n X.1 X.2.1 dX12_readLaw_0 rfl (lv_at hl 0 rfl) ?_
  refine lv_iload_n X.1 X.2.1 dX12_readLaw_1 rfl (lv_at hl 1 rfl) ?_
  have ho1 := ho.1
  have ho := ho.2
  refine r_ev I (r_runV X I pk_X12_open (c12_open l G _ _ _ ho1) lm_X12_186 (by decide) (cl_12 rfl) rfl rfl rfl hl.1 rfl (Nat.le_of_ble_eq_true rfl) dX12_readLaw_2 ⟨Nat.le_of_ble_eq_true rfl, Nat.le_of_ble_eq_true rfl⟩ ⟨Nat.le_refl 0, Nat.le_refl 0⟩) (fun H locs I => ?_)
  refine lv_aload_n X.1 X.2.1 dX12_readLaw_5 rfl (lv_at hl 0 rfl) ?_
  have ho2 := ho.1
  have ho := ho.2
  refine r_ev I (r_runV X I pk_X12_clause (c12_clause l G _ _ ho2) lm_X12_189 (by decide) (cl_12 rfl) rfl rfl rfl hl.1 rfl (Nat.le_of_ble_eq_true rfl) dX12_readLaw_6 ⟨Nat.le_of_ble_eq_true rfl, Nat.le_of_ble_eq_true rfl⟩ ⟨Nat.le_refl 0, Nat.le_refl 0⟩) (fun H locs I => ?_)
  exact c12_readLaw_c9 X _ _ _ _ _ _ _ I (lv_sub hl [0, 1] rfl) ho (hE.trans (rfl))
noncomputable def f12_bounded (x0 : Int64) : Int32 := (Int64.toInt32 (if (if x0 < (1000000 : Int64) then x0 else (1000000 : Int64)) < (-1000000 : Int64) then (-1000000 : Int64) else (if x0 < (1000000 : Int64) then x0 else (1000000 : Int64))))
set_option maxHeartbeats 4000000 in
set_option maxRecDepth 100000 in
theorem c12_bounded (l : Launch) (G : GT) (σ : SI) (τ : SL) (x0 : Int64) : Mc l yX12_bounded cX12_bounded 2 (some .int) 1 G [.long x0] σ τ (Qi G (Ei (f12_bounded x0) σ τ)) := by
  refine m_start (by decide +kernel) (Nat.le_of_ble_eq_true rfl) rfl (fun p e s m args below meth c ls X I hl => ?_)
  have hl : lv_has ls 2 [(0, .long x0)] := hl
  obtain ⟨E, hE⟩ : ∃ E, E = (f12_bounded x0) := ⟨_, rfl⟩
  rw [← hE]
  refine lv_ldc2 X.1 X.2.1 (v := (-1000000)) X.2.2.2.2.1 (X.2.2.2.1 _ lq_X12_195) dX12_bounded_0 ?_
  refine lv_ldc2 X.1 X.2.1 (v := 1000000) X.2.2.2.2.1 (X.2.2.2.1 _ lq_X12_197) dX12_bounded_3 ?_
  refine lv_lload_n X.1 X.2.1 dX12_bounded_6 rfl (lv_at hl 0 rfl) ?_
  refine r_mminL X hl.1 lm_X12_199 ls_J9_min_f86c9 ln_J9 lc_J9_min_f86c9 (Nat.le_of_ble_eq_true rfl) (Nat.le_of_ble_eq_true rfl) (Nat.le_refl 0) (Nat.le_refl 0) dX12_bounded_7 ?_
  refine r_mmaxL X hl.1 lm_X12_205 ls_J9_max_f86c9 ln_J9 lc_J9_max_f86c9 (Nat.le_of_ble_eq_true rfl) (Nat.le_of_ble_eq_true rfl) (Nat.le_refl 0) (Nat.le_refl 0) dX12_bounded_10 ?_
  refine lv_l2i X.1 X.2.1 dX12_bounded_13 rfl ?_
  have h9 := hE
  exact r_iret X I (e_i h9.symm rfl rfl) dX12_bounded_14
noncomputable def f12_worked (x0 : Int32) (x1 : Int64) (x3 : Int64) : Int32 := if x0 = 2 then (f12_bounded (x1 + x3)) else (if x0 = 3 then (f12_bounded (x1 - x3)) else (if x0 = 4 then (f12_bounded (x1 * x3)) else (if x0 = 5 then (if (lg_cmp x3 (0 : Int64)) = (0 : Int32) then (0 : Int32) else (f12_bounded (x1 / x3))) else (if x0 = 6 then (if (lg_cmp x1 x3) = (0 : Int32) then (1 : Int32) else (0 : Int32)) else (if x0 = 7 then (if (0 : Int32) ≤ (lg_cmp x1 x3) then (0 : Int32) else (1 : Int32)) else (if x0 = 8 then (if (lg_cmp x1 x3) ≤ (0 : Int32) then (0 : Int32) else (1 : Int32)) else (if x0 = 10 then (if (lg_cmp x1 (0 : Int64)) = (0 : Int32) then (0 : Int32) else (if (lg_cmp x3 (0 : Int64)) = (0 : Int32) then (0 : Int32) else (1 : Int32))) else (if (lg_cmp x1 (0 : Int64)) = (0 : Int32) then (if (lg_cmp x3 (0 : Int64)) = (0 : Int32) then (0 : Int32) else (1 : Int32)) else (1 : Int32)))))))))
noncomputable def o12_worked (x0 : Int32) (x1 : Int64) (x3 : Int64) : Prop := if x0 = 2 then True else (if x0 = 3 then True else (if x0 = 4 then True else (if x0 = 5 then (if (lg_cmp x3 (0 : Int64)) = (0 : Int32) then True else ((x3 ≠ 0) ∧ True)) else (if x0 = 6 then (if (lg_cmp x1 x3) = (0 : Int32) then True else True) else (if x0 = 7 then (if (0 : Int32) ≤ (lg_cmp x1 x3) then True else True) else (if x0 = 8 then (if (lg_cmp x1 x3) ≤ (0 : Int32) then True else True) else (if x0 = 10 then (if (lg_cmp x1 (0 : Int64)) = (0 : Int32) then True else (if (lg_cmp x3 (0 : Int64)) = (0 : Int32) then True else True)) else (if (lg_cmp x1 (0 : Int64)) = (0 : Int32) then (if (lg_cmp x3 (0 : Int64)) = (0 : Int32) then True else True) else True))))))))
set_option maxHeartbeats 4000000 in
set_option maxRecDepth 100000 in
theorem c12_worked (l : Launch) (G : GT) (σ : SI) (τ : SL) (x0 : Int32) (x1 : Int64) (x3 : Int64) (ho : o12_worked x0 x1 x3) : Mc l yX12_worked cX12_worked 5 (some .int) 2 G [.int x0, .long x1, .long x3] σ τ (Qi G (Ei (f12_worked x0 x1 x3) σ τ)) := by
  refine m_start (by decide +kernel) (Nat.le_of_ble_eq_true rfl) rfl (fun p e s m args below meth c ls X I hl => ?_)
  have hl : lv_has ls 5 [(0, .int x0), (1, .long x1), (3, .long x3)] := hl
  obtain ⟨E, hE⟩ : ∃ E, E = (f12_worked x0 x1 x3) := ⟨_, rfl⟩
  rw [← hE]
  unfold o12_worked at ho
  refine lv_iload_n X.1 X.2.1 dX12_worked_0 rfl (lv_at hl 0 rfl) ?_
  rcases Classical.em (x0 = 2) with c_1 | c_1
  · skip
    have hE := ite_t hE c_1
    have ho := ite_tP ho c_1
    refine lv_tableIn (off := 51) (tgt := 52) X.1 X.2.1 dX12_worked_1 (by rw [c_1]; decide) (by rw [c_1]; decide) (by rw [c_1]; decide) (by decide) ?_
    refine lv_lload_n X.1 X.2.1 dX12_worked_52 rfl (lv_at hl 1 rfl) ?_
    refine lv_lload_n X.1 X.2.1 dX12_worked_53 rfl (lv_at hl 2 rfl) ?_
    refine lv_ladd X.1 X.2.1 dX12_worked_54 ?_
    refine r_ei I (r_runS X I pk_X12_bounded (c12_bounded l G _ _ _) lm_X12_208 rfl hl.1 rfl (Nat.le_of_ble_eq_true rfl) dX12_worked_55 ⟨Nat.le_of_ble_eq_true rfl, Nat.le_of_ble_eq_true rfl⟩ ⟨Nat.le_refl 0, Nat.le_refl 0⟩) (fun H locs I => ?_)
    have h9 := hE
    exact r_iret X I (e_i h9.symm rfl rfl) dX12_worked_58
  have hE := ite_f hE c_1
  have ho := ite_fP ho c_1
  rcases Classical.em (x0 = 3) with c_2 | c_2
  · skip
    have hE := ite_t hE c_2
    have ho := ite_tP ho c_2
    refine lv_tableIn (off := 58) (tgt := 59) X.1 X.2.1 dX12_worked_1 (by rw [c_2]; decide) (by rw [c_2]; decide) (by rw [c_2]; decide) (by decide) ?_
    refine lv_lload_n X.1 X.2.1 dX12_worked_59 rfl (lv_at hl 1 rfl) ?_
    refine lv_lload_n X.1 X.2.1 dX12_worked_60 rfl (lv_at hl 2 rfl) ?_
    refine lv_lsub X.1 X.2.1 dX12_worked_61 ?_
    refine r_ei I (r_runS X I pk_X12_bounded (c12_bounded l G _ _ _) lm_X12_208 rfl hl.1 rfl (Nat.le_of_ble_eq_true rfl) dX12_worked_62 ⟨Nat.le_of_ble_eq_true rfl, Nat.le_of_ble_eq_true rfl⟩ ⟨Nat.le_refl 0, Nat.le_refl 0⟩) (fun H locs I => ?_)
    have h9 := hE
    exact r_iret X I (e_i h9.symm rfl rfl) dX12_worked_65
  have hE := ite_f hE c_2
  have ho := ite_fP ho c_2
  rcases Classical.em (x0 = 4) with c_3 | c_3
  · skip
    have hE := ite_t hE c_3
    have ho := ite_tP ho c_3
    refine lv_tableIn (off := 65) (tgt := 66) X.1 X.2.1 dX12_worked_1 (by rw [c_3]; decide) (by rw [c_3]; decide) (by rw [c_3]; decide) (by decide) ?_
    refine lv_lload_n X.1 X.2.1 dX12_worked_66 rfl (lv_at hl 1 rfl) ?_
    refine lv_lload_n X.1 X.2.1 dX12_worked_67 rfl (lv_at hl 2 rfl) ?_
    refine lv_lmul X.1 X.2.1 dX12_worked_68 ?_
    refine r_ei I (r_runS X I pk_X12_bounded (c12_bounded l G _ _ _) lm_X12_208 rfl hl.1 rfl (Nat.le_of_ble_eq_true rfl) dX12_worked_69 ⟨Nat.le_of_ble_eq_true rfl, Nat.le_of_ble_eq_true rfl⟩ ⟨Nat.le_refl 0, Nat.le_refl 0⟩) (fun H locs I => ?_)
    have h9 := hE
    exact r_iret X I (e_i h9.symm rfl rfl) dX12_worked_72
  have hE := ite_f hE c_3
  have ho := ite_fP ho c_3
  rcases Classical.em (x0 = 5) with c_4 | c_4
  · skip
    have hE := ite_t hE c_4
    have ho := ite_tP ho c_4
    refine lv_tableIn (off := 72) (tgt := 73) X.1 X.2.1 dX12_worked_1 (by rw [c_4]; decide) (by rw [c_4]; decide) (by rw [c_4]; decide) (by decide) ?_
    refine lv_lload_n X.1 X.2.1 dX12_worked_73 rfl (lv_at hl 2 rfl) ?_
    refine lv_lconst (v := 0) X.1 X.2.1 dX12_worked_74 rfl ?_
    refine W.lcmp X.1 X.2.1 dX12_worked_75 ?_
    refine lv_if_ne (tgt := 83) X.1 X.2.1 dX12_worked_76 (by decide) (fun c_5 => ?_) (fun c_5 => ?_)
    · skip
      have hE := ite_f hE c_5
      have ho := ite_fP ho c_5
      refine lv_lload_n X.1 X.2.1 dX12_worked_83 rfl (lv_at hl 1 rfl) ?_
      refine lv_lload_n X.1 X.2.1 dX12_worked_84 rfl (lv_at hl 2 rfl) ?_
      have ho1 := ho.1
      have ho := ho.2
      refine lv_ldiv X.1 X.2.1 dX12_worked_85 ho1 ?_
      refine r_ei I (r_runS X I pk_X12_bounded (c12_bounded l G _ _ _) lm_X12_208 rfl hl.1 rfl (Nat.le_of_ble_eq_true rfl) dX12_worked_86 ⟨Nat.le_of_ble_eq_true rfl, Nat.le_of_ble_eq_true rfl⟩ ⟨Nat.le_refl 0, Nat.le_refl 0⟩) (fun H locs I => ?_)
      have h9 := hE
      exact r_iret X I (e_i h9.symm rfl rfl) dX12_worked_89
    · skip
      have hE := ite_t hE c_5
      have ho := ite_tP ho c_5
      refine lv_iconst (v := 0) X.1 X.2.1 dX12_worked_79 (by decide) ?_
      refine lv_goto (tgt := 89) X.1 X.2.1 dX12_worked_80 (by decide) ?_
      have h9 := hE
      exact r_iret X I (e_i h9.symm rfl rfl) dX12_worked_89
  have hE := ite_f hE c_4
  have ho := ite_fP ho c_4
  rcases Classical.em (x0 = 6) with c_6 | c_6
  · skip
    have hE := ite_t hE c_6
    have ho := ite_tP ho c_6
    refine lv_tableIn (off := 89) (tgt := 90) X.1 X.2.1 dX12_worked_1 (by rw [c_6]; decide) (by rw [c_6]; decide) (by rw [c_6]; decide) (by decide) ?_
    refine lv_lload_n X.1 X.2.1 dX12_worked_90 rfl (lv_at hl 1 rfl) ?_
    refine lv_lload_n X.1 X.2.1 dX12_worked_91 rfl (lv_at hl 2 rfl) ?_
    refine W.lcmp X.1 X.2.1 dX12_worked_92 ?_
    refine lv_if_ne (tgt := 100) X.1 X.2.1 dX12_worked_93 (by decide) (fun c_7 => ?_) (fun c_7 => ?_)
    · skip
      have hE := ite_f hE c_7
      have ho := ite_fP ho c_7
      refine lv_iconst (v := 0) X.1 X.2.1 dX12_worked_100 (by decide) ?_
      have h9 := hE
      exact r_iret X I (e_i h9.symm rfl rfl) dX12_worked_101
    · skip
      have hE := ite_t hE c_7
      have ho := ite_tP ho c_7
      refine lv_iconst (v := 1) X.1 X.2.1 dX12_worked_96 (by decide) ?_
      refine lv_goto (tgt := 101) X.1 X.2.1 dX12_worked_97 (by decide) ?_
      have h9 := hE
      exact r_iret X I (e_i h9.symm rfl rfl) dX12_worked_101
  have hE := ite_f hE c_6
  have ho := ite_fP ho c_6
  rcases Classical.em (x0 = 7) with c_8 | c_8
  · skip
    have hE := ite_t hE c_8
    have ho := ite_tP ho c_8
    refine lv_tableIn (off := 101) (tgt := 102) X.1 X.2.1 dX12_worked_1 (by rw [c_8]; decide) (by rw [c_8]; decide) (by rw [c_8]; decide) (by decide) ?_
    refine lv_lload_n X.1 X.2.1 dX12_worked_102 rfl (lv_at hl 1 rfl) ?_
    refine lv_lload_n X.1 X.2.1 dX12_worked_103 rfl (lv_at hl 2 rfl) ?_
    refine W.lcmp X.1 X.2.1 dX12_worked_104 ?_
    refine lv_if_ge (tgt := 112) X.1 X.2.1 dX12_worked_105 (by decide) (fun c_9 => ?_) (fun c_9 => ?_)
    · skip
      have hE := ite_t hE c_9
      have ho := ite_tP ho c_9
      refine lv_iconst (v := 0) X.1 X.2.1 dX12_worked_112 (by decide) ?_
      have h9 := hE
      exact r_iret X I (e_i h9.symm rfl rfl) dX12_worked_113
    · skip
      have hE := ite_f hE c_9
      have ho := ite_fP ho c_9
      refine lv_iconst (v := 1) X.1 X.2.1 dX12_worked_108 (by decide) ?_
      refine lv_goto (tgt := 113) X.1 X.2.1 dX12_worked_109 (by decide) ?_
      have h9 := hE
      exact r_iret X I (e_i h9.symm rfl rfl) dX12_worked_113
  have hE := ite_f hE c_8
  have ho := ite_fP ho c_8
  rcases Classical.em (x0 = 8) with c_10 | c_10
  · skip
    have hE := ite_t hE c_10
    have ho := ite_tP ho c_10
    refine lv_tableIn (off := 113) (tgt := 114) X.1 X.2.1 dX12_worked_1 (by rw [c_10]; decide) (by rw [c_10]; decide) (by rw [c_10]; decide) (by decide) ?_
    refine lv_lload_n X.1 X.2.1 dX12_worked_114 rfl (lv_at hl 1 rfl) ?_
    refine lv_lload_n X.1 X.2.1 dX12_worked_115 rfl (lv_at hl 2 rfl) ?_
    refine W.lcmp X.1 X.2.1 dX12_worked_116 ?_
    refine lv_if_le (tgt := 124) X.1 X.2.1 dX12_worked_117 (by decide) (fun c_11 => ?_) (fun c_11 => ?_)
    · skip
      have hE := ite_t hE c_11
      have ho := ite_tP ho c_11
      refine lv_iconst (v := 0) X.1 X.2.1 dX12_worked_124 (by decide) ?_
      have h9 := hE
      exact r_iret X I (e_i h9.symm rfl rfl) dX12_worked_125
    · skip
      have hE := ite_f hE c_11
      have ho := ite_fP ho c_11
      refine lv_iconst (v := 1) X.1 X.2.1 dX12_worked_120 (by decide) ?_
      refine lv_goto (tgt := 125) X.1 X.2.1 dX12_worked_121 (by decide) ?_
      have h9 := hE
      exact r_iret X I (e_i h9.symm rfl rfl) dX12_worked_125
  have hE := ite_f hE c_10
  have ho := ite_fP ho c_10
  rcases Classical.em (x0 = 10) with c_12 | c_12
  · skip
    have hE := ite_t hE c_12
    have ho := ite_tP ho c_12
    refine lv_tableIn (off := 125) (tgt := 126) X.1 X.2.1 dX12_worked_1 (by rw [c_12]; decide) (by rw [c_12]; decide) (by rw [c_12]; decide) (by decide) ?_
    refine lv_lload_n X.1 X.2.1 dX12_worked_126 rfl (lv_at hl 1 rfl) ?_
    refine lv_lconst (v := 0) X.1 X.2.1 dX12_worked_127 rfl ?_
    refine W.lcmp X.1 X.2.1 dX12_worked_128 ?_
    refine lv_if_eq (tgt := 142) X.1 X.2.1 dX12_worked_129 (by decide) (fun c_13 => ?_) (fun c_13 => ?_)
    · skip
      have hE := ite_t hE c_13
      have ho := ite_tP ho c_13
      refine lv_iconst (v := 0) X.1 X.2.1 dX12_worked_142 (by decide) ?_
      have h9 := hE
      exact r_iret X I (e_i h9.symm rfl rfl) dX12_worked_143
    · skip
      have hE := ite_f hE c_13
      have ho := ite_fP ho c_13
      refine lv_lload_n X.1 X.2.1 dX12_worked_132 rfl (lv_at hl 2 rfl) ?_
      refine lv_lconst (v := 0) X.1 X.2.1 dX12_worked_133 rfl ?_
      refine W.lcmp X.1 X.2.1 dX12_worked_134 ?_
      refine lv_if_eq (tgt := 142) X.1 X.2.1 dX12_worked_135 (by decide) (fun c_14 => ?_) (fun c_14 => ?_)
      · skip
        have hE := ite_t hE c_14
        have ho := ite_tP ho c_14
        refine lv_iconst (v := 0) X.1 X.2.1 dX12_worked_142 (by decide) ?_
        have h9 := hE
        exact r_iret X I (e_i h9.symm rfl rfl) dX12_worked_143
      · skip
        have hE := ite_f hE c_14
        have ho := ite_fP ho c_14
        refine lv_iconst (v := 1) X.1 X.2.1 dX12_worked_138 (by decide) ?_
        refine lv_goto (tgt := 143) X.1 X.2.1 dX12_worked_139 (by decide) ?_
        have h9 := hE
        exact r_iret X I (e_i h9.symm rfl rfl) dX12_worked_143
  have hE := ite_f hE c_12
  have ho := ite_fP ho c_12
  refine lv_tableD (L := [2, 3, 4, 5, 6, 7, 8, 10]) (tgt := 144) X.1 X.2.1 dX12_worked_1 (by decide) (List.forall_mem_cons.mpr ⟨c_1, (List.forall_mem_cons.mpr ⟨c_2, (List.forall_mem_cons.mpr ⟨c_3, (List.forall_mem_cons.mpr ⟨c_4, (List.forall_mem_cons.mpr ⟨c_6, (List.forall_mem_cons.mpr ⟨c_8, (List.forall_mem_cons.mpr ⟨c_10, (List.forall_mem_cons.mpr ⟨c_12, (fun _ h => absurd h List.not_mem_nil)⟩)⟩)⟩)⟩)⟩)⟩)⟩)⟩) (by decide) ?_
  refine lv_lload_n X.1 X.2.1 dX12_worked_144 rfl (lv_at hl 1 rfl) ?_
  refine lv_lconst (v := 0) X.1 X.2.1 dX12_worked_145 rfl ?_
  refine W.lcmp X.1 X.2.1 dX12_worked_146 ?_
  refine lv_if_ne (tgt := 156) X.1 X.2.1 dX12_worked_147 (by decide) (fun c_15 => ?_) (fun c_15 => ?_)
  · skip
    have hE := ite_f hE c_15
    have ho := ite_fP ho c_15
    refine lv_iconst (v := 1) X.1 X.2.1 dX12_worked_156 (by decide) ?_
    refine lv_goto (tgt := 161) X.1 X.2.1 dX12_worked_157 (by decide) ?_
    have h9 := hE
    exact r_iret X I (e_i h9.symm rfl rfl) dX12_worked_161
  · skip
    have hE := ite_t hE c_15
    have ho := ite_tP ho c_15
    refine lv_lload_n X.1 X.2.1 dX12_worked_150 rfl (lv_at hl 2 rfl) ?_
    refine lv_lconst (v := 0) X.1 X.2.1 dX12_worked_151 rfl ?_
    refine W.lcmp X.1 X.2.1 dX12_worked_152 ?_
    refine lv_if_eq (tgt := 160) X.1 X.2.1 dX12_worked_153 (by decide) (fun c_16 => ?_) (fun c_16 => ?_)
    · skip
      have hE := ite_t hE c_16
      have ho := ite_tP ho c_16
      refine lv_iconst (v := 0) X.1 X.2.1 dX12_worked_160 (by decide) ?_
      have h9 := hE
      exact r_iret X I (e_i h9.symm rfl rfl) dX12_worked_161
    · skip
      have hE := ite_f hE c_16
      have ho := ite_fP ho c_16
      refine lv_iconst (v := 1) X.1 X.2.1 dX12_worked_156 (by decide) ?_
      refine lv_goto (tgt := 161) X.1 X.2.1 dX12_worked_157 (by decide) ?_
      have h9 := hE
      exact r_iret X I (e_i h9.symm rfl rfl) dX12_worked_161
