noncomputable def f12_end (σ : SI) (x1 : Int32) : Bool × SI := if x1 < (0 : Int32) then (false, σ) else (if x1 ≤ (σ 123 2) then (let s0 := sp σ 123 2 x1; (true, s0)) else (false, σ))
theorem w_f12_end (σ : SI) (x1 : Int32) (a : Nat) (h0 : a ≠ 123) : (f12_end σ x1).2 a = σ a := by
  refine fp_to2 ?_
  unfold f12_end
  exact (fr_ite2 (fr_mk21 rfl) (fr_ite2 (fr_mk21 (sp_n h0)) (fr_mk21 rfl)))
set_option maxHeartbeats 4000000 in
set_option maxRecDepth 100000 in
theorem c12_end (l : Launch) (G : GT) (σ : SI) (τ : SL) (x1 : Int32) : Mc l yX12_end cX12_end 2 (some .boolean) 0 G [.ref (G.2.1 123), .int x1] σ τ (Qi G (Ei (b2i (f12_end σ x1).1) (f12_end σ x1).2 τ)) := by
  refine m_start (by decide +kernel) (Nat.le_of_ble_eq_true rfl) rfl (fun p e s m args below meth c ls X I hl => ?_)
  have hl : lv_has ls 2 [(0, .ref (G.2.1 123)), (1, .int x1)] := hl
  obtain ⟨E, hE⟩ : ∃ E, E = (f12_end σ x1) := ⟨_, rfl⟩
  rw [← hE]
  refine lv_iload_n X.1 X.2.1 dX12_end_0 rfl (lv_at hl 1 rfl) ?_
  refine lv_if_lt (tgt := 12) X.1 X.2.1 dX12_end_1 (by decide) (fun c_1 => ?_) (fun c_1 => ?_)
  · skip
    have hE := ite_t hE c_1
    refine lv_iconst (v := 0) X.1 X.2.1 dX12_end_12 (by decide) ?_
    have h9 := hE
    exact r_zret X I rfl (e_i (congrArg b2i (pr_fst (a := false) h9)) (pr_snd h9) rfl) dX12_end_13
  · skip
    have hE := ite_f hE c_1
    refine lv_iload_n X.1 X.2.1 dX12_end_4 rfl (lv_at hl 1 rfl) ?_
    refine lv_aload_n X.1 X.2.1 dX12_end_5 rfl (lv_at hl 0 rfl) ?_
    refine g12_2 X I (k := 123) (by decide) rfl lf_X12_112 dX12_end_6 ?_
    refine lv_icmp_le (tgt := 14) X.1 X.2.1 dX12_end_9 (by decide) (fun c_2 => ?_) (fun c_2 => ?_)
    · skip
      have hE := ite_t hE c_2
      refine lv_aload_n X.1 X.2.1 dX12_end_14 rfl (lv_at hl 0 rfl) ?_
      refine lv_iload_n X.1 X.2.1 dX12_end_15 rfl (lv_at hl 1 rfl) ?_
      refine p12_2 X I (k := 123) (by decide) rfl lf_X12_112 dX12_end_16 (fun H locs I => ?_)
      refine lv_iconst (v := 1) X.1 X.2.1 dX12_end_19 (by decide) ?_
      have h9 := hE
      exact r_zret X I rfl (e_i (congrArg b2i (pr_fst (a := true) h9)) (pr_snd h9) rfl) dX12_end_20
    · skip
      have hE := ite_f hE c_2
      refine lv_iconst (v := 0) X.1 X.2.1 dX12_end_12 (by decide) ?_
      have h9 := hE
      exact r_zret X I rfl (e_i (congrArg b2i (pr_fst (a := false) h9)) (pr_snd h9) rfl) dX12_end_13
noncomputable def f12_here (σ : SI) : Int32 := if (σ 123 2) ≤ (σ 123 3) then (-1 : Int32) else (σ 124 (Int32.toNatClampNeg (σ 123 3)))
noncomputable def o12_here (σ : SI) : Prop := if (σ 123 2) ≤ (σ 123 3) then True else ((vp_in (σ 123 3) 240) ∧ True)
set_option maxHeartbeats 4000000 in
set_option maxRecDepth 100000 in
theorem c12_here (l : Launch) (G : GT) (σ : SI) (τ : SL) (ho : o12_here σ) : Mc l yX12_here cX12_here 1 (some .int) 0 G [.ref (G.2.1 123)] σ τ (Qi G (Ei (f12_here σ) σ τ)) := by
  refine m_start (by decide +kernel) (Nat.le_of_ble_eq_true rfl) rfl (fun p e s m args below meth c ls X I hl => ?_)
  have hl : lv_has ls 1 [(0, .ref (G.2.1 123))] := hl
  obtain ⟨E, hE⟩ : ∃ E, E = (f12_here σ) := ⟨_, rfl⟩
  rw [← hE]
  unfold o12_here at ho
  refine lv_aload_n X.1 X.2.1 dX12_here_0 rfl (lv_at hl 0 rfl) ?_
  refine g12_3 X I (k := 123) (by decide) rfl lf_X12_115 dX12_here_1 ?_
  refine lv_aload_n X.1 X.2.1 dX12_here_4 rfl (lv_at hl 0 rfl) ?_
  refine g12_2 X I (k := 123) (by decide) rfl lf_X12_112 dX12_here_5 ?_
  refine lv_icmp_ge (tgt := 23) X.1 X.2.1 dX12_here_8 (by decide) (fun c_1 => ?_) (fun c_1 => ?_)
  · skip
    have hE := ite_t hE c_1
    have ho := ite_tP ho c_1
    refine lv_iconst (v := (-1)) X.1 X.2.1 dX12_here_23 (by decide) ?_
    have h9 := hE
    exact r_iret X I (e_i h9.symm rfl rfl) dX12_here_24
  · skip
    have hE := ite_f hE c_1
    have ho := ite_fP ho c_1
    refine lv_aload_n X.1 X.2.1 dX12_here_11 rfl (lv_at hl 0 rfl) ?_
    refine g12_1 X I (k := 123) (by decide) rfl lf_X12_9 dX12_here_12 ?_
    refine lv_aload_n X.1 X.2.1 dX12_here_15 rfl (lv_at hl 0 rfl) ?_
    refine g12_3 X I (k := 123) (by decide) rfl lf_X12_115 dX12_here_16 ?_
    have ho1 := ho.1
    have ho := ho.2
    refine r_ald X I (k := 124) (n := 240) (by decide) rfl ho1 dX12_here_19 ?_
    refine lv_goto (tgt := 24) X.1 X.2.1 dX12_here_20 (by decide) ?_
    have h9 := hE
    exact r_iret X I (e_i h9.symm rfl rfl) dX12_here_24
noncomputable def f12_look_c0 : Nat → SI → (Int32 × SI)
  | 0, σ => (0, σ)
  | fu + 1, σ => if (f12_here σ) = (32 : Int32) then (let s0 := sp σ 123 3 ((σ 123 3) + (1 : Int32)); (f12_look_c0 fu s0)) else ((f12_here σ), σ)
noncomputable def o12_look_c0 : Nat → SI → Prop
  | 0, _ => False
  | fu + 1, σ => (o12_here σ) ∧ (if (f12_here σ) = (32 : Int32) then (let s0 := sp σ 123 3 ((σ 123 3) + (1 : Int32)); (o12_look_c0 fu s0)) else ((o12_here σ) ∧ True))
noncomputable def f12_look (σ : SI) : Int32 × SI := (f12_look_c0 (fu1 ((Int32.toInt (σ 123 2) - Int32.toInt (σ 123 3)).toNat + 1)) σ)
noncomputable def o12_look (σ : SI) : Prop := (o12_look_c0 (fu1 ((Int32.toInt (σ 123 2) - Int32.toInt (σ 123 3)).toNat + 1)) σ)
theorem w_f12_look_c0 (a : Nat) (h0 : a ≠ 123) : ∀ (fu : Nat) (σ : SI), (f12_look_c0 fu σ).2 a = σ a := by
  intro fu
  induction fu with
  | zero => intro σ; exact rfl
  | succ fu ih =>
    intro σ
    refine fp_to2 ?_
    unfold f12_look_c0
    exact (fr_ite2 (fp_of2 (((ih _).trans (sp_n h0)))) (fr_mk21 rfl))
theorem w_f12_look (σ : SI) (a : Nat) (h0 : a ≠ 123) : (f12_look σ).2 a = σ a := by
  refine fp_to2 ?_
  unfold f12_look
  exact (fp_of2 ((w_f12_look_c0 a h0 _ _)))
set_option maxHeartbeats 4000000 in
set_option maxRecDepth 100000 in
theorem c12_look_c0 {l : Launch} {p : Program} {e : Env} {s : State} {m : MethodId} {args : Array Value} {below : List Frame} {meth : Method} {c : Code} {G : GT} (X : CX p s m args meth c cX12_look RX12 1 (some .int) G) {E : Int32 × SI} (τ : SL) : ∀ (fu : Nat) (σ : SI) (H : Heap) (locs : List Loc) (ls : Array Slot), IX G s H locs σ τ → lv_has ls 1 [(0, .ref (G.2.1 123))] → (o12_look_c0 fu σ) → E = (f12_look_c0 fu σ) → W p l e (rmN 1) s m args below meth c H locs 0 0 (MQ below ((Qi G (Ei E.1 E.2 τ)) s.heap.size) args s 0 0 (AW G s.heap.size)) (F0 m 0 ls []) := by
  intro fu
  induction fu with
  | zero =>
    intro σ H locs ls I hl  ho hE
    unfold o12_look_c0 at ho
    exact ho.elim
  | succ fu ih =>
    intro σ H locs ls I hl  ho hE
    unfold o12_look_c0 at ho
    refine lv_aload_n X.1 X.2.1 dX12_look_0 rfl (lv_at hl 0 rfl) ?_
    have ho1 := ho.1
    have ho := ho.2
    refine r_ei I (r_runV X I pk_X12_here (c12_here l G _ _ ho1) lm_X12_118 (by decide) (cl_12 rfl) rfl rfl rfl hl.1 rfl (Nat.le_of_ble_eq_true rfl) dX12_look_1 ⟨Nat.le_of_ble_eq_true rfl, Nat.le_of_ble_eq_true rfl⟩ ⟨Nat.le_refl 0, Nat.le_refl 0⟩) (fun H locs I => ?_)
    refine lv_bipush (v := 32) X.1 X.2.1 dX12_look_4 (by decide) ?_
    refine lv_icmp_ne (tgt := 22) X.1 X.2.1 dX12_look_6 (by decide) (fun c_1 => ?_) (fun c_1 => ?_)
    · skip
      have hE := ite_f hE c_1
      have ho := ite_fP ho c_1
      refine lv_aload_n X.1 X.2.1 dX12_look_22 rfl (lv_at hl 0 rfl) ?_
      have ho2 := ho.1
      have ho := ho.2
      refine r_ei I (r_runV X I pk_X12_here (c12_here l G _ _ ho2) lm_X12_118 (by decide) (cl_12 rfl) rfl rfl rfl hl.1 rfl (Nat.le_of_ble_eq_true rfl) dX12_look_23 ⟨Nat.le_of_ble_eq_true rfl, Nat.le_of_ble_eq_true rfl⟩ ⟨Nat.le_refl 0, Nat.le_refl 0⟩) (fun H locs I => ?_)
      have h9 := hE
      exact r_iret X I (e_i (pr_fst h9) (pr_snd h9) rfl) dX12_look_26
    · skip
      have hE := ite_t hE c_1
      have ho := ite_tP ho c_1
      refine lv_aload_n X.1 X.2.1 dX12_look_9 rfl (lv_at hl 0 rfl) ?_
      refine lv_dup X.1 X.2.1 dX12_look_10 rfl ?_
      refine g12_3 X I (k := 123) (by decide) rfl lf_X12_115 dX12_look_11 ?_
      refine lv_iconst (v := 1) X.1 X.2.1 dX12_look_14 (by decide) ?_
      refine lv_iadd X.1 X.2.1 dX12_look_15 ?_
      refine p12_3 X I (k := 123) (by decide) rfl lf_X12_115 dX12_look_16 (fun H locs I => ?_)
      refine lv_goto (tgt := 0) X.1 X.2.1 dX12_look_19 (by decide) ?_
      exact ih _ _ _ _ I (lv_sub hl [0] rfl) ho (hE.trans (rfl))
set_option maxHeartbeats 4000000 in
set_option maxRecDepth 100000 in
theorem c12_look (l : Launch) (G : GT) (σ : SI) (τ : SL) (ho : o12_look σ) : Mc l yX12_look cX12_look 1 (some .int) 1 G [.ref (G.2.1 123)] σ τ (Qi G (Ei (f12_look σ).1 (f12_look σ).2 τ)) := by
  refine m_start (by decide +kernel) (Nat.le_of_ble_eq_true rfl) rfl (fun p e s m args below meth c ls X I hl => ?_)
  have hl : lv_has ls 1 [(0, .ref (G.2.1 123))] := hl
  obtain ⟨E, hE⟩ : ∃ E, E = (f12_look σ) := ⟨_, rfl⟩
  rw [← hE]
  unfold o12_look at ho
  exact c12_look_c0 X _  _ _ _ _ _ I (lv_sub hl [0] rfl) ho (hE.trans (rfl))
noncomputable def f12_bad (σ : SI) : SI := if (σ 123 4) = (-1 : Int32) then (let s1 := sp σ 123 4 (σ 123 3); s1) else (let s0 := sp σ 123 4 (σ 123 4); s0)
theorem w_f12_bad (σ : SI) (a : Nat) (h0 : a ≠ 123) : (f12_bad σ) a = σ a := by
  unfold f12_bad
  exact (fr_ite (sp_n h0) (sp_n h0))
set_option maxHeartbeats 4000000 in
set_option maxRecDepth 100000 in
theorem c12_bad (l : Launch) (G : GT) (σ : SI) (τ : SL) : Mc l yX12_bad cX12_bad 1 none 0 G [.ref (G.2.1 123)] σ τ (Qv G (Ev (f12_bad σ) τ)) := by
  refine m_start (by decide +kernel) (Nat.le_of_ble_eq_true rfl) rfl (fun p e s m args below meth c ls X I hl => ?_)
  have hl : lv_has ls 1 [(0, .ref (G.2.1 123))] := hl
  obtain ⟨E, hE⟩ : ∃ E, E = (f12_bad σ) := ⟨_, rfl⟩
  rw [← hE]
  refine lv_aload_n X.1 X.2.1 dX12_bad_0 rfl (lv_at hl 0 rfl) ?_
  refine lv_aload_n X.1 X.2.1 dX12_bad_1 rfl (lv_at hl 0 rfl) ?_
  refine g12_4 X I (k := 123) (by decide) rfl lf_X12_122 dX12_bad_2 ?_
  refine lv_iconst (v := (-1)) X.1 X.2.1 dX12_bad_5 (by decide) ?_
  refine lv_icmp_ne (tgt := 16) X.1 X.2.1 dX12_bad_6 (by decide) (fun c_1 => ?_) (fun c_1 => ?_)
  · skip
    have hE := ite_f hE c_1
    refine lv_aload_n X.1 X.2.1 dX12_bad_16 rfl (lv_at hl 0 rfl) ?_
    refine g12_4 X I (k := 123) (by decide) rfl lf_X12_122 dX12_bad_17 ?_
    refine p12_4 X I (k := 123) (by decide) rfl lf_X12_122 dX12_bad_20 (fun H locs I => ?_)
    have h9 := hE
    exact r_vret X I (e_v h9.symm rfl) dX12_bad_23
  · skip
    have hE := ite_t hE c_1
    refine lv_aload_n X.1 X.2.1 dX12_bad_9 rfl (lv_at hl 0 rfl) ?_
    refine g12_3 X I (k := 123) (by decide) rfl lf_X12_115 dX12_bad_10 ?_
    refine lv_goto (tgt := 20) X.1 X.2.1 dX12_bad_13 (by decide) ?_
    refine p12_4 X I (k := 123) (by decide) rfl lf_X12_122 dX12_bad_20 (fun H locs I => ?_)
    have h9 := hE
    exact r_vret X I (e_v h9.symm rfl) dX12_bad_23
noncomputable def f12_isDigit (x0 : Int32) : Bool := if x0 < (48 : Int32) then false else (if (57 : Int32) < x0 then false else true)
set_option maxHeartbeats 4000000 in
set_option maxRecDepth 100000 in
theorem c12_isDigit (l : Launch) (G : GT) (σ : SI) (τ : SL) (x0 : Int32) : Mc l yX12_isDigit cX12_isDigit 1 (some .boolean) 0 G [.int x0] σ τ (Qi G (Ei (b2i (f12_isDigit x0)) σ τ)) := by
  refine m_start (by decide +kernel) (Nat.le_of_ble_eq_true rfl) rfl (fun p e s m args below meth c ls X I hl => ?_)
  have hl : lv_has ls 1 [(0, .int x0)] := hl
  obtain ⟨E, hE⟩ : ∃ E, E = (f12_isDigit x0) := ⟨_, rfl⟩
  rw [← hE]
  refine lv_iload_n X.1 X.2.1 dX12_isDigit_0 rfl (lv_at hl 0 rfl) ?_
  refine lv_bipush (v := 48) X.1 X.2.1 dX12_isDigit_1 (by decide) ?_
  refine lv_icmp_lt (tgt := 16) X.1 X.2.1 dX12_isDigit_3 (by decide) (fun c_1 => ?_) (fun c_1 => ?_)
  · skip
    have hE := ite_t hE c_1
    refine lv_iconst (v := 0) X.1 X.2.1 dX12_isDigit_16 (by decide) ?_
    have h9 := hE
    exact r_zret X I rfl (e_i (congrArg b2i h9).symm rfl rfl) dX12_isDigit_17
  · skip
    have hE := ite_f hE c_1
    refine lv_iload_n X.1 X.2.1 dX12_isDigit_6 rfl (lv_at hl 0 rfl) ?_
    refine lv_bipush (v := 57) X.1 X.2.1 dX12_isDigit_7 (by decide) ?_
    refine lv_icmp_gt (tgt := 16) X.1 X.2.1 dX12_isDigit_9 (by decide) (fun c_2 => ?_) (fun c_2 => ?_)
    · skip
      have hE := ite_t hE c_2
      refine lv_iconst (v := 0) X.1 X.2.1 dX12_isDigit_16 (by decide) ?_
      have h9 := hE
      exact r_zret X I rfl (e_i (congrArg b2i h9).symm rfl rfl) dX12_isDigit_17
    · skip
      have hE := ite_f hE c_2
      refine lv_iconst (v := 1) X.1 X.2.1 dX12_isDigit_12 (by decide) ?_
      refine lv_goto (tgt := 17) X.1 X.2.1 dX12_isDigit_13 (by decide) ?_
      have h9 := hE
      exact r_zret X I rfl (e_i (congrArg b2i h9).symm rfl rfl) dX12_isDigit_17
noncomputable def f12_put (σ : SI) (x1 : Int32) (x2 : Int32) : SI := let s0 := sp σ 125 (Int32.toNatClampNeg (((520 : Int32) * (σ 123 14)) + (σ 127 (Int32.toNatClampNeg (σ 123 14))))) x1; let s1 := sp s0 126 (Int32.toNatClampNeg (((520 : Int32) * (σ 123 14)) + (σ 127 (Int32.toNatClampNeg (σ 123 14))))) x2; let s2 := sp s1 127 (Int32.toNatClampNeg (σ 123 14)) ((σ 127 (Int32.toNatClampNeg (σ 123 14))) + (1 : Int32)); s2
noncomputable def o12_put (σ : SI) (x1 : Int32) (x2 : Int32) : Prop := (vp_in (σ 123 14) 5) ∧ ((vp_in (((520 : Int32) * (σ 123 14)) + (σ 127 (Int32.toNatClampNeg (σ 123 14)))) 2600) ∧ (let s0 := sp σ 125 (Int32.toNatClampNeg (((520 : Int32) * (σ 123 14)) + (σ 127 (Int32.toNatClampNeg (σ 123 14))))) x1; (vp_in (σ 123 14) 5) ∧ ((vp_in (((520 : Int32) * (σ 123 14)) + (σ 127 (Int32.toNatClampNeg (σ 123 14)))) 2600) ∧ (let s1 := sp s0 126 (Int32.toNatClampNeg (((520 : Int32) * (σ 123 14)) + (σ 127 (Int32.toNatClampNeg (σ 123 14))))) x2; (vp_in (σ 123 14) 5) ∧ ((vp_in (σ 123 14) 5) ∧ (let s2 := sp s1 127 (Int32.toNatClampNeg (σ 123 14)) ((σ 127 (Int32.toNatClampNeg (σ 123 14))) + (1 : Int32)); True))))))
theorem w_f12_put (σ : SI) (x1 : Int32) (x2 : Int32) (a : Nat) (h0 : a ≠ 125) (h1 : a ≠ 126) (h2 : a ≠ 127) : (f12_put σ x1 x2) a = σ a := by
  unfold f12_put
  exact ((sp_n h2).trans ((sp_n h1).trans (sp_n h0)))
set_option maxHeartbeats 4000000 in
set_option maxRecDepth 100000 in
theorem c12_put (l : Launch) (G : GT) (σ : SI) (τ : SL) (x1 : Int32) (x2 : Int32) (ho : o12_put σ x1 x2) : Mc l yX12_put cX12_put 3 none 0 G [.ref (G.2.1 123), .int x1, .int x2] σ τ (Qv G (Ev (f12_put σ x1 x2) τ)) := by
  refine m_start (by decide +kernel) (Nat.le_of_ble_eq_true rfl) rfl (fun p e s m args below meth c ls X I hl => ?_)
  have hl : lv_has ls 3 [(0, .ref (G.2.1 123)), (1, .int x1), (2, .int x2)] := hl
  obtain ⟨E, hE⟩ : ∃ E, E = (f12_put σ x1 x2) := ⟨_, rfl⟩
  rw [← hE]
  unfold o12_put at ho
  refine lv_aload_n X.1 X.2.1 dX12_put_0 rfl (lv_at hl 0 rfl) ?_
  refine g12_6 X I (k := 123) (by decide) rfl lf_X12_13 dX12_put_1 ?_
  refine lv_sipush (v := 520) X.1 X.2.1 dX12_put_4 (by decide) ?_
  refine lv_aload_n X.1 X.2.1 dX12_put_7 rfl (lv_at hl 0 rfl) ?_
  refine g12_14 X I (k := 123) (by decide) rfl lf_X12_125 dX12_put_8 ?_
  refine lv_imul X.1 X.2.1 dX12_put_11 ?_
  refine lv_aload_n X.1 X.2.1 dX12_put_12 rfl (lv_at hl 0 rfl) ?_
  refine g12_8 X I (k := 123) (by decide) rfl lf_X12_19 dX12_put_13 ?_
  refine lv_aload_n X.1 X.2.1 dX12_put_16 rfl (lv_at hl 0 rfl) ?_
  refine g12_14 X I (k := 123) (by decide) rfl lf_X12_125 dX12_put_17 ?_
  have ho1 := ho.1
  have ho := ho.2
  refine r_ald X I (k := 127) (n := 5) (by decide) rfl ho1 dX12_put_20 ?_
  refine lv_iadd X.1 X.2.1 dX12_put_21 ?_
  refine lv_iload_n X.1 X.2.1 dX12_put_22 rfl (lv_at hl 1 rfl) ?_
  have ho2 := ho.1
  have ho := ho.2
  refine r_ast X I (k := 125) (n := 2600) (by decide) rfl ho2 dX12_put_23 (fun H locs I => ?_)
  refine lv_aload_n X.1 X.2.1 dX12_put_24 rfl (lv_at hl 0 rfl) ?_
  refine g12_7 X I (k := 123) (by decide) rfl lf_X12_16 dX12_put_25 ?_
  refine lv_sipush (v := 520) X.1 X.2.1 dX12_put_28 (by decide) ?_
  refine lv_aload_n X.1 X.2.1 dX12_put_31 rfl (lv_at hl 0 rfl) ?_
  refine g12_14 X I (k := 123) (by decide) rfl lf_X12_125 dX12_put_32 ?_
  refine lv_imul X.1 X.2.1 dX12_put_35 ?_
  refine lv_aload_n X.1 X.2.1 dX12_put_36 rfl (lv_at hl 0 rfl) ?_
  refine g12_8 X I (k := 123) (by decide) rfl lf_X12_19 dX12_put_37 ?_
  refine lv_aload_n X.1 X.2.1 dX12_put_40 rfl (lv_at hl 0 rfl) ?_
  refine g12_14 X I (k := 123) (by decide) rfl lf_X12_125 dX12_put_41 ?_
  have ho3 := ho.1
  have ho := ho.2
  refine r_ald X I (k := 127) (n := 5) (by decide) rfl ho3 dX12_put_44 ?_
  refine lv_iadd X.1 X.2.1 dX12_put_45 ?_
  refine lv_iload_n X.1 X.2.1 dX12_put_46 rfl (lv_at hl 2 rfl) ?_
  have ho4 := ho.1
  have ho := ho.2
  refine r_ast X I (k := 126) (n := 2600) (by decide) rfl ho4 dX12_put_47 (fun H locs I => ?_)
  refine lv_aload_n X.1 X.2.1 dX12_put_48 rfl (lv_at hl 0 rfl) ?_
  refine g12_8 X I (k := 123) (by decide) rfl lf_X12_19 dX12_put_49 ?_
  refine lv_aload_n X.1 X.2.1 dX12_put_52 rfl (lv_at hl 0 rfl) ?_
  refine g12_14 X I (k := 123) (by decide) rfl lf_X12_125 dX12_put_53 ?_
  refine lv_dup2_11 X.1 X.2.1 dX12_put_56 rfl rfl ?_
  have ho5 := ho.1
  have ho := ho.2
  refine r_ald X I (k := 127) (n := 5) (by decide) rfl ho5 dX12_put_57 ?_
  refine lv_iconst (v := 1) X.1 X.2.1 dX12_put_58 (by decide) ?_
  refine lv_iadd X.1 X.2.1 dX12_put_59 ?_
  have ho6 := ho.1
  have ho := ho.2
  refine r_ast X I (k := 127) (n := 5) (by decide) rfl ho6 dX12_put_60 (fun H locs I => ?_)
  have h9 := hE
  exact r_vret X I (e_v h9.symm rfl) dX12_put_61
noncomputable def f12_letterOf (x0 : Int32) : Int32 := if x0 = (103 : Int32) then (0 : Int32) else (if x0 = (113 : Int32) then (1 : Int32) else (if x0 = (116 : Int32) then (2 : Int32) else (if x0 = (110 : Int32) then (3 : Int32) else (if x0 = (100 : Int32) then (4 : Int32) else (if x0 = (121 : Int32) then (5 : Int32) else (-1 : Int32))))))
set_option maxHeartbeats 4000000 in
set_option maxRecDepth 100000 in
theorem c12_letterOf (l : Launch) (G : GT) (σ : SI) (τ : SL) (x0 : Int32) : Mc l yX12_letterOf cX12_letterOf 1 (some .int) 0 G [.int x0] σ τ (Qi G (Ei (f12_letterOf x0) σ τ)) := by
  refine m_start (by decide +kernel) (Nat.le_of_ble_eq_true rfl) rfl (fun p e s m args below meth c ls X I hl => ?_)
  have hl : lv_has ls 1 [(0, .int x0)] := hl
  obtain ⟨E, hE⟩ : ∃ E, E = (f12_letterOf x0) := ⟨_, rfl⟩
  rw [← hE]
  refine lv_iload_n X.1 X.2.1 dX12_letterOf_0 rfl (lv_at hl 0 rfl) ?_
  refine lv_bipush (v := 103) X.1 X.2.1 dX12_letterOf_1 (by decide) ?_
  refine lv_icmp_ne (tgt := 10) X.1 X.2.1 dX12_letterOf_3 (by decide) (fun c_1 => ?_) (fun c_1 => ?_)
  · skip
    have hE := ite_f hE c_1
    refine lv_iload_n X.1 X.2.1 dX12_letterOf_10 rfl (lv_at hl 0 rfl) ?_
    refine lv_bipush (v := 113) X.1 X.2.1 dX12_letterOf_11 (by decide) ?_
    refine lv_icmp_ne (tgt := 20) X.1 X.2.1 dX12_letterOf_13 (by decide) (fun c_2 => ?_) (fun c_2 => ?_)
    · skip
      have hE := ite_f hE c_2
      refine lv_iload_n X.1 X.2.1 dX12_letterOf_20 rfl (lv_at hl 0 rfl) ?_
      refine lv_bipush (v := 116) X.1 X.2.1 dX12_letterOf_21 (by decide) ?_
      refine lv_icmp_ne (tgt := 30) X.1 X.2.1 dX12_letterOf_23 (by decide) (fun c_3 => ?_) (fun c_3 => ?_)
      · skip
        have hE := ite_f hE c_3
        refine lv_iload_n X.1 X.2.1 dX12_letterOf_30 rfl (lv_at hl 0 rfl) ?_
        refine lv_bipush (v := 110) X.1 X.2.1 dX12_letterOf_31 (by decide) ?_
        refine lv_icmp_ne (tgt := 40) X.1 X.2.1 dX12_letterOf_33 (by decide) (fun c_4 => ?_) (fun c_4 => ?_)
        · skip
          have hE := ite_f hE c_4
          refine lv_iload_n X.1 X.2.1 dX12_letterOf_40 rfl (lv_at hl 0 rfl) ?_
          refine lv_bipush (v := 100) X.1 X.2.1 dX12_letterOf_41 (by decide) ?_
          refine lv_icmp_ne (tgt := 50) X.1 X.2.1 dX12_letterOf_43 (by decide) (fun c_5 => ?_) (fun c_5 => ?_)
          · skip
            have hE := ite_f hE c_5
            refine lv_iload_n X.1 X.2.1 dX12_letterOf_50 rfl (lv_at hl 0 rfl) ?_
            refine lv_bipush (v := 121) X.1 X.2.1 dX12_letterOf_51 (by decide) ?_
            refine lv_icmp_ne (tgt := 60) X.1 X.2.1 dX12_letterOf_53 (by decide) (fun c_6 => ?_) (fun c_6 => ?_)
            · skip
              have hE := ite_f hE c_6
              refine lv_iconst (v := (-1)) X.1 X.2.1 dX12_letterOf_60 (by decide) ?_
              have h9 := hE
              exact r_iret X I (e_i h9.symm rfl rfl) dX12_letterOf_61
            · skip
              have hE := ite_t hE c_6
              refine lv_iconst (v := 5) X.1 X.2.1 dX12_letterOf_56 (by decide) ?_
              refine lv_goto (tgt := 61) X.1 X.2.1 dX12_letterOf_57 (by decide) ?_
              have h9 := hE
              exact r_iret X I (e_i h9.symm rfl rfl) dX12_letterOf_61
          · skip
            have hE := ite_t hE c_5
            refine lv_iconst (v := 4) X.1 X.2.1 dX12_letterOf_46 (by decide) ?_
            refine lv_goto (tgt := 61) X.1 X.2.1 dX12_letterOf_47 (by decide) ?_
            have h9 := hE
            exact r_iret X I (e_i h9.symm rfl rfl) dX12_letterOf_61
        · skip
          have hE := ite_t hE c_4
          refine lv_iconst (v := 3) X.1 X.2.1 dX12_letterOf_36 (by decide) ?_
          refine lv_goto (tgt := 61) X.1 X.2.1 dX12_letterOf_37 (by decide) ?_
          have h9 := hE
          exact r_iret X I (e_i h9.symm rfl rfl) dX12_letterOf_61
      · skip
        have hE := ite_t hE c_3
        refine lv_iconst (v := 2) X.1 X.2.1 dX12_letterOf_26 (by decide) ?_
        refine lv_goto (tgt := 61) X.1 X.2.1 dX12_letterOf_27 (by decide) ?_
        have h9 := hE
        exact r_iret X I (e_i h9.symm rfl rfl) dX12_letterOf_61
    · skip
      have hE := ite_t hE c_2
      refine lv_iconst (v := 1) X.1 X.2.1 dX12_letterOf_16 (by decide) ?_
      refine lv_goto (tgt := 61) X.1 X.2.1 dX12_letterOf_17 (by decide) ?_
      have h9 := hE
      exact r_iret X I (e_i h9.symm rfl rfl) dX12_letterOf_61
  · skip
    have hE := ite_t hE c_1
    refine lv_iconst (v := 0) X.1 X.2.1 dX12_letterOf_6 (by decide) ?_
    refine lv_goto (tgt := 61) X.1 X.2.1 dX12_letterOf_7 (by decide) ?_
    have h9 := hE
    exact r_iret X I (e_i h9.symm rfl rfl) dX12_letterOf_61
noncomputable def f12_opens (σ : SI) : SI := if (σ 123 5) = (6 : Int32) then (let s2 := (f12_bad σ); let s3 := sp s2 123 5 ((s2 123 5) + (1 : Int32)); let s4 := sp s3 123 3 ((s2 123 3) + (1 : Int32)); s4) else (let s0 := sp σ 123 5 ((σ 123 5) + (1 : Int32)); let s1 := sp s0 123 3 ((σ 123 3) + (1 : Int32)); s1)
theorem w_f12_opens (σ : SI) (a : Nat) (h0 : a ≠ 123) : (f12_opens σ) a = σ a := by
  unfold f12_opens
  exact (fr_ite ((sp_n h0).trans ((sp_n h0).trans (w_f12_bad _ a h0))) ((sp_n h0).trans (sp_n h0)))
set_option maxHeartbeats 4000000 in
set_option maxRecDepth 100000 in
theorem c12_opens (l : Launch) (G : GT) (σ : SI) (τ : SL) : Mc l yX12_opens cX12_opens 1 none 1 G [.ref (G.2.1 123)] σ τ (Qv G (Ev (f12_opens σ) τ)) := by
  refine m_start (by decide +kernel) (Nat.le_of_ble_eq_true rfl) rfl (fun p e s m args below meth c ls X I hl => ?_)
  have hl : lv_has ls 1 [(0, .ref (G.2.1 123))] := hl
  obtain ⟨E, hE⟩ : ∃ E, E = (f12_opens σ) := ⟨_, rfl⟩
  rw [← hE]
  refine lv_aload_n X.1 X.2.1 dX12_opens_0 rfl (lv_at hl 0 rfl) ?_
  refine g12_5 X I (k := 123) (by decide) rfl lf_X12_128 dX12_opens_1 ?_
  refine lv_bipush (v := 6) X.1 X.2.1 dX12_opens_4 (by decide) ?_
  refine lv_icmp_ne (tgt := 13) X.1 X.2.1 dX12_opens_6 (by decide) (fun c_1 => ?_) (fun c_1 => ?_)
  · skip
    have hE := ite_f hE c_1
    refine lv_aload_n X.1 X.2.1 dX12_opens_13 rfl (lv_at hl 0 rfl) ?_
    refine lv_dup X.1 X.2.1 dX12_opens_14 rfl ?_
    refine g12_5 X I (k := 123) (by decide) rfl lf_X12_128 dX12_opens_15 ?_
    refine lv_iconst (v := 1) X.1 X.2.1 dX12_opens_18 (by decide) ?_
    refine lv_iadd X.1 X.2.1 dX12_opens_19 ?_
    refine p12_5 X I (k := 123) (by decide) rfl lf_X12_128 dX12_opens_20 (fun H locs I => ?_)
    refine lv_aload_n X.1 X.2.1 dX12_opens_23 rfl (lv_at hl 0 rfl) ?_
    refine lv_dup X.1 X.2.1 dX12_opens_24 rfl ?_
    refine g12_3 X I (k := 123) (by decide) rfl lf_X12_115 dX12_opens_25 ?_
    refine lv_iconst (v := 1) X.1 X.2.1 dX12_opens_28 (by decide) ?_
    refine lv_iadd X.1 X.2.1 dX12_opens_29 ?_
    refine p12_3 X I (k := 123) (by decide) rfl lf_X12_115 dX12_opens_30 (fun H locs I => ?_)
    have h9 := hE
    exact r_vret X I (e_v h9.symm rfl) dX12_opens_33
  · skip
    have hE := ite_t hE c_1
    refine lv_aload_n X.1 X.2.1 dX12_opens_9 rfl (lv_at hl 0 rfl) ?_
    refine r_ev I (r_runV X I pk_X12_bad (c12_bad l G _ _) lm_X12_131 (by decide) (cl_12 rfl) rfl rfl rfl hl.1 rfl (Nat.le_of_ble_eq_true rfl) dX12_opens_10 ⟨Nat.le_of_ble_eq_true rfl, Nat.le_of_ble_eq_true rfl⟩ ⟨Nat.le_refl 0, Nat.le_refl 0⟩) (fun H locs I => ?_)
    refine lv_aload_n X.1 X.2.1 dX12_opens_13 rfl (lv_at hl 0 rfl) ?_
    refine lv_dup X.1 X.2.1 dX12_opens_14 rfl ?_
    refine g12_5 X I (k := 123) (by decide) rfl lf_X12_128 dX12_opens_15 ?_
    refine lv_iconst (v := 1) X.1 X.2.1 dX12_opens_18 (by decide) ?_
    refine lv_iadd X.1 X.2.1 dX12_opens_19 ?_
    refine p12_5 X I (k := 123) (by decide) rfl lf_X12_128 dX12_opens_20 (fun H locs I => ?_)
    refine lv_aload_n X.1 X.2.1 dX12_opens_23 rfl (lv_at hl 0 rfl) ?_
    refine lv_dup X.1 X.2.1 dX12_opens_24 rfl ?_
    refine g12_3 X I (k := 123) (by decide) rfl lf_X12_115 dX12_opens_25 ?_
    refine lv_iconst (v := 1) X.1 X.2.1 dX12_opens_28 (by decide) ?_
    refine lv_iadd X.1 X.2.1 dX12_opens_29 ?_
    refine p12_3 X I (k := 123) (by decide) rfl lf_X12_115 dX12_opens_30 (fun H locs I => ?_)
    have h9 := hE
    exact r_vret X I (e_v h9.symm rfl) dX12_opens_33
