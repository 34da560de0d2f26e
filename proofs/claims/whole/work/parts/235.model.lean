noncomputable def f12_remains (σ : SI) (x1 : Int32) : Int32 × SI := if (f12_isHouse σ x1) = true then (let r0 := (f12_endOf σ x1); (((σ 137 0) - r0.1), r0.2)) else ((-1000000 : Int32), σ)
noncomputable def o12_remains (σ : SI) (x1 : Int32) : Prop := if (f12_isHouse σ x1) = true then ((o12_endOf σ x1) ∧ (let r0 := (f12_endOf σ x1); True)) else True
theorem w_f12_remains (σ : SI) (x1 : Int32) (a : Nat) (h0 : a ≠ 132) (h1 : a ≠ 133) : (f12_remains σ x1).2 a = σ a := by
  refine fp_to2 ?_
  unfold f12_remains
  exact (fr_ite2 (fr_mk21 (w_f12_endOf _ _ a h0 h1)) (fr_mk21 rfl))
set_option maxHeartbeats 4000000 in
set_option maxRecDepth 100000 in
theorem c12_remains (l : Launch) (G : GT) (σ : SI) (τ : SL) (x1 : Int32) (ho : o12_remains σ x1) : Mc l yX12_remains cX12_remains 2 (some .int) 9 G [.ref (G.2.1 123), .int x1] σ τ (Qi G (Ei (f12_remains σ x1).1 (f12_remains σ x1).2 τ)) := by
  refine m_start (by decide +kernel) (Nat.le_of_ble_eq_true rfl) rfl (fun p e s m args below meth c ls X I hl => ?_)
  have hl : lv_has ls 2 [(0, .ref (G.2.1 123)), (1, .int x1)] := hl
  obtain ⟨E, hE⟩ : ∃ E, E = (f12_remains σ x1) := ⟨_, rfl⟩
  rw [← hE]
  unfold o12_remains at ho
  refine lv_aload_n X.1 X.2.1 dX12_remains_0 rfl (lv_at hl 0 rfl) ?_
  refine lv_iload_n X.1 X.2.1 dX12_remains_1 rfl (lv_at hl 1 rfl) ?_
  refine r_ei I (r_runV X I pk_X12_isHouse (c12_isHouse l G _ _ _) lm_X12_332 (by decide) (cl_12 rfl) rfl rfl rfl hl.1 rfl (Nat.le_of_ble_eq_true rfl) dX12_remains_2 ⟨Nat.le_of_ble_eq_true rfl, Nat.le_of_ble_eq_true rfl⟩ ⟨Nat.le_refl 0, Nat.le_refl 0⟩) (fun H locs I => ?_)
  refine lv_if_eq (tgt := 23) X.1 X.2.1 dX12_remains_5 (by decide) (fun c_1 => ?_) (fun c_1 => ?_)
  · skip
    have hE := ite_f hE (b2i_n c_1)
    have ho := ite_fP ho (b2i_n c_1)
    refine lv_ldcw X.1 X.2.1 (v := (-1000000)) X.2.2.2.2.1 (X.2.2.2.1 _ lq_X12_418) dX12_remains_23 ?_
    have h9 := hE
    exact r_iret X I (e_i (pr_fst h9) (pr_snd h9) rfl) dX12_remains_26
  · skip
    have hE := ite_t hE (b2i_y c_1)
    have ho := ite_tP ho (b2i_y c_1)
    refine lv_aload_n X.1 X.2.1 dX12_remains_8 rfl (lv_at hl 0 rfl) ?_
    refine g12_22 X I (k := 123) (by decide) rfl lf_X12_49 dX12_remains_9 ?_
    refine lv_iconst (v := 0) X.1 X.2.1 dX12_remains_12 (by decide) ?_
    refine r_ald X I (k := 137) (n := 3) (by decide) rfl (by unfold vp_in; decide) dX12_remains_13 ?_
    refine lv_aload_n X.1 X.2.1 dX12_remains_14 rfl (lv_at hl 0 rfl) ?_
    refine lv_iload_n X.1 X.2.1 dX12_remains_15 rfl (lv_at hl 1 rfl) ?_
    have ho1 := ho.1
    have ho := ho.2
    refine r_ei I (r_runV X I pk_X12_endOf (c12_endOf l G _ _ _ ho1) lm_X12_335 (by decide) (cl_12 rfl) rfl rfl rfl hl.1 rfl (Nat.le_of_ble_eq_true rfl) dX12_remains_16 ⟨Nat.le_of_ble_eq_true rfl, Nat.le_of_ble_eq_true rfl⟩ ⟨Nat.le_refl 0, Nat.le_refl 0⟩) (fun H locs I => ?_)
    refine lv_isub X.1 X.2.1 dX12_remains_19 ?_
    refine lv_goto (tgt := 26) X.1 X.2.1 dX12_remains_20 (by decide) ?_
    have h9 := hE
    exact r_iret X I (e_i (pr_fst h9) (pr_snd h9) rfl) dX12_remains_26
noncomputable def f12_image_c11 : Nat → Int32 → SI → (Int32 × SI)
  | 0, _, σ => (0, σ)
  | fu + 1, v1, σ => if (255 : Int32) ≤ v1 then (let s0 := sp σ 123 50 (1 : Int32); ((σ 140 12), s0)) else (let s1 := sp σ 152 (Int32.toNatClampNeg v1) (σ 140 (Int32.toNatClampNeg v1)); (f12_image_c11 fu (v1 + 1) s1))
noncomputable def o12_image_c11 : Nat → Int32 → SI → Prop
  | 0, _, _ => True
  | fu + 1, v1, σ => if (255 : Int32) ≤ v1 then (let s0 := sp σ 123 50 (1 : Int32); True) else ((vp_in v1 255) ∧ ((vp_in v1 255) ∧ (let s1 := sp σ 152 (Int32.toNatClampNeg v1) (σ 140 (Int32.toNatClampNeg v1)); (o12_image_c11 fu (v1 + 1) s1))))
noncomputable def f12_image (σ : SI) : Int32 × SI := if (σ 123 25) = (0 : Int32) then ((-1 : Int32), σ) else (f12_image_c11 (fu1 ((Int32.toInt (255 : Int32) - Int32.toInt (0 : Int32)).toNat)) (0 : Int32) σ)
noncomputable def o12_image (σ : SI) : Prop := if (σ 123 25) = (0 : Int32) then True else (o12_image_c11 (fu1 ((Int32.toInt (255 : Int32) - Int32.toInt (0 : Int32)).toNat)) (0 : Int32) σ)
theorem w_f12_image_c11 (a : Nat) (h0 : a ≠ 123) (h1 : a ≠ 152) : ∀ (fu : Nat) (v1 : Int32) (σ : SI), (f12_image_c11 fu v1 σ).2 a = σ a := by
  intro fu
  induction fu with
  | zero => intro v1 σ; exact rfl
  | succ fu ih =>
    intro v1 σ
    refine fp_to2 ?_
    unfold f12_image_c11
    exact (fr_ite2 (fr_mk21 (sp_n h0)) (fp_of2 (((ih _ _).trans (sp_n h1)))))
theorem w_f12_image (σ : SI) (a : Nat) (h0 : a ≠ 123) (h1 : a ≠ 152) : (f12_image σ).2 a = σ a := by
  refine fp_to2 ?_
  unfold f12_image
  exact (fr_ite2 (fr_mk21 rfl) (fp_of2 ((w_f12_image_c11 a h0 h1 _ _ _))))
set_option maxHeartbeats 4000000 in
set_option maxRecDepth 100000 in
theorem c12_image_c11 {l : Launch} {p : Program} {e : Env} {s : State} {m : MethodId} {args : Array Value} {below : List Frame} {meth : Method} {c : Code} {G : GT} (X : CX p s m args meth c cX12_image RX12 2 (some .int) G) {E : Int32 × SI} (τ : SL) : ∀ (fu : Nat) (v1 : Int32) (σ : SI) (H : Heap) (locs : List Loc) (ls : Array Slot), IX G s H locs σ τ → lv_has ls 2 [(0, .ref (G.2.1 123)), (1, .int v1)] → (o12_image_c11 fu v1 σ) → (Int32.toInt (255 : Int32) - Int32.toInt v1).toNat < fu → E = (f12_image_c11 fu v1 σ) → W p l e (rmN 0) s m args below meth c H locs 0 0 (MQ below ((Qi G (Ei E.1 E.2 τ)) s.heap.size) args s 0 0 (AW G s.heap.size)) (F0 m 11 ls []) := by
  intro fu
  induction fu with
  | zero =>
    intro v1 σ H locs ls I hl  ho hm hE
    exact absurd hm (Nat.not_lt_zero _)
  | succ fu ih =>
    intro v1 σ H locs ls I hl  ho hm hE
    unfold o12_image_c11 at ho
    refine lv_iload_n X.1 X.2.1 dX12_image_11 rfl (lv_at hl 1 rfl) ?_
    refine lv_sipush (v := 255) X.1 X.2.1 dX12_image_12 (by decide) ?_
    refine lv_icmp_ge (tgt := 36) X.1 X.2.1 dX12_image_15 (by decide) (fun c_2 => ?_) (fun c_2 => ?_)
    · skip
      have hE := ite_t hE c_2
      have ho := ite_tP ho c_2
      refine lv_aload_n X.1 X.2.1 dX12_image_36 rfl (lv_at hl 0 rfl) ?_
      refine lv_iconst (v := 1) X.1 X.2.1 dX12_image_37 (by decide) ?_
      refine p12_50 X I (k := 123) (by decide) rfl lf_X12_282 rfl rfl dX12_image_38 (fun H locs I => ?_)
      refine lv_aload_n X.1 X.2.1 dX12_image_41 rfl (lv_at hl 0 rfl) ?_
      refine g12_27 X I (k := 123) (by decide) rfl lf_X12_58 dX12_image_42 ?_
      refine lv_bipush (v := 12) X.1 X.2.1 dX12_image_45 (by decide) ?_
      refine r_ald X I (k := 140) (n := 255) (by decide) rfl (by unfold vp_in; decide) dX12_image_47 ?_
      have h9 := hE
      exact r_iret X I (e_i (pr_fst h9) (pr_snd h9) rfl) dX12_image_48
    · skip
      have hE := ite_f hE c_2
      have ho := ite_fP ho c_2
      refine lv_aload_n X.1 X.2.1 dX12_image_18 rfl (lv_at hl 0 rfl) ?_
      refine g12_49 X I (k := 123) (by decide) rfl lf_X12_102 dX12_image_19 ?_
      refine lv_iload_n X.1 X.2.1 dX12_image_22 rfl (lv_at hl 1 rfl) ?_
      refine lv_aload_n X.1 X.2.1 dX12_image_23 rfl (lv_at hl 0 rfl) ?_
      refine g12_27 X I (k := 123) (by decide) rfl lf_X12_58 dX12_image_24 ?_
      refine lv_iload_n X.1 X.2.1 dX12_image_27 rfl (lv_at hl 1 rfl) ?_
      have ho1 := ho.1
      have ho := ho.2
      refine r_ald X I (k := 140) (n := 255) (by decide) rfl ho1 dX12_image_28 ?_
      have ho2 := ho.1
      have ho := ho.2
      refine r_ast X I (k := 152) (n := 255) (by decide) rfl ho2 dX12_image_29 (fun H locs I => ?_)
      refine lv_iinc (v := _ + 1) (lv' := [(1, .int _), (0, .ref _)]) X.1 X.2.1 dX12_image_30 hl (k := 1) rfl rfl (by decide) rfl (fun ls hl => ?_)
      refine lv_goto (tgt := 11) X.1 X.2.1 dX12_image_33 (by decide) ?_
      exact ih _ _ _ _ _ I (lv_sub hl [1, 0] rfl) ho (Nat.lt_of_lt_of_le (up_dec c_2) (Nat.le_of_lt_succ hm)) (hE.trans (rfl))
set_option maxHeartbeats 4000000 in
set_option maxRecDepth 100000 in
theorem c12_image (l : Launch) (G : GT) (σ : SI) (τ : SL) (ho : o12_image σ) : Mc l yX12_image cX12_image 2 (some .int) 0 G [.ref (G.2.1 123)] σ τ (Qi G (Ei (f12_image σ).1 (f12_image σ).2 τ)) := by
  refine m_start (by decide +kernel) (Nat.le_of_ble_eq_true rfl) rfl (fun p e s m args below meth c ls X I hl => ?_)
  have hl : lv_has ls 2 [(0, .ref (G.2.1 123))] := hl
  obtain ⟨E, hE⟩ : ∃ E, E = (f12_image σ) := ⟨_, rfl⟩
  rw [← hE]
  unfold o12_image at ho
  refine lv_aload_n X.1 X.2.1 dX12_image_0 rfl (lv_at hl 0 rfl) ?_
  refine g12_25 X I (k := 123) (by decide) rfl lf_X12_264 dX12_image_1 ?_
  refine lv_if_ne (tgt := 9) X.1 X.2.1 dX12_image_4 (by decide) (fun c_1 => ?_) (fun c_1 => ?_)
  · skip
    have hE := ite_f hE c_1
    have ho := ite_fP ho c_1
    refine lv_iconst (v := 0) X.1 X.2.1 dX12_image_9 (by decide) ?_
    refine lv_istore_n (lv' := [(1, .int _), (0, .ref _)]) X.1 X.2.1 dX12_image_10 rfl hl (by decide) rfl (fun ls hl => ?_)
    exact c12_image_c11 X _  _ _ _ _ _ _ I (lv_sub hl [1, 0] rfl) ho (fu1_lt _) (hE.trans (rfl))
  · skip
    have hE := ite_t hE c_1
    have ho := ite_tP ho c_1
    refine lv_iconst (v := (-1)) X.1 X.2.1 dX12_image_7 (by decide) ?_
    have h9 := hE
    exact r_iret X I (e_i (pr_fst h9) (pr_snd h9) rfl) dX12_image_8
noncomputable def f12_back_c11 : Nat → Int32 → SI → (Int32 × SI)
  | 0, _, σ => (0, σ)
  | fu + 1, v1, σ => if (255 : Int32) ≤ v1 then (let s0 := sp σ 123 32 (0 : Int32); ((σ 140 12), s0)) else (let s1 := sp σ 140 (Int32.toNatClampNeg v1) (σ 152 (Int32.toNatClampNeg v1)); (f12_back_c11 fu (v1 + 1) s1))
noncomputable def o12_back_c11 : Nat → Int32 → SI → Prop
  | 0, _, _ => True
  | fu + 1, v1, σ => if (255 : Int32) ≤ v1 then (let s0 := sp σ 123 32 (0 : Int32); True) else ((vp_in v1 255) ∧ ((vp_in v1 255) ∧ (let s1 := sp σ 140 (Int32.toNatClampNeg v1) (σ 152 (Int32.toNatClampNeg v1)); (o12_back_c11 fu (v1 + 1) s1))))
noncomputable def f12_back (σ : SI) : Int32 × SI := if (σ 123 50) = (0 : Int32) then ((-1 : Int32), σ) else (f12_back_c11 (fu1 ((Int32.toInt (255 : Int32) - Int32.toInt (0 : Int32)).toNat)) (0 : Int32) σ)
noncomputable def o12_back (σ : SI) : Prop := if (σ 123 50) = (0 : Int32) then True else (o12_back_c11 (fu1 ((Int32.toInt (255 : Int32) - Int32.toInt (0 : Int32)).toNat)) (0 : Int32) σ)
theorem w_f12_back_c11 (a : Nat) (h0 : a ≠ 123) (h1 : a ≠ 140) : ∀ (fu : Nat) (v1 : Int32) (σ : SI), (f12_back_c11 fu v1 σ).2 a = σ a := by
  intro fu
  induction fu with
  | zero => intro v1 σ; exact rfl
  | succ fu ih =>
    intro v1 σ
    refine fp_to2 ?_
    unfold f12_back_c11
    exact (fr_ite2 (fr_mk21 (sp_n h0)) (fp_of2 (((ih _ _).trans (sp_n h1)))))
theorem w_f12_back (σ : SI) (a : Nat) (h0 : a ≠ 123) (h1 : a ≠ 140) : (f12_back σ).2 a = σ a := by
  refine fp_to2 ?_
  unfold f12_back
  exact (fr_ite2 (fr_mk21 rfl) (fp_of2 ((w_f12_back_c11 a h0 h1 _ _ _))))
set_option maxHeartbeats 4000000 in
set_option maxRecDepth 100000 in
theorem c12_back_c11 {l : Launch} {p : Program} {e : Env} {s : State} {m : MethodId} {args : Array Value} {below : List Frame} {meth : Method} {c : Code} {G : GT} (X : CX p s m args meth c cX12_back RX12 2 (some .int) G) {E : Int32 × SI} (τ : SL) : ∀ (fu : Nat) (v1 : Int32) (σ : SI) (H : Heap) (locs : List Loc) (ls : Array Slot), IX G s H locs σ τ → lv_has ls 2 [(0, .ref (G.2.1 123)), (1, .int v1)] → (o12_back_c11 fu v1 σ) → (Int32.toInt (255 : Int32) - Int32.toInt v1).toNat < fu → E = (f12_back_c11 fu v1 σ) → W p l e (rmN 0) s m args below meth c H locs 0 0 (MQ below ((Qi G (Ei E.1 E.2 τ)) s.heap.size) args s 0 0 (AW G s.heap.size)) (F0 m 11 ls []) := by
  intro fu
  induction fu with
  | zero =>
    intro v1 σ H locs ls I hl  ho hm hE
    exact absurd hm (Nat.not_lt_zero _)
  | succ fu ih =>
    intro v1 σ H locs ls I hl  ho hm hE
    unfold o12_back_c11 at ho
    refine lv_iload_n X.1 X.2.1 dX12_back_11 rfl (lv_at hl 1 rfl) ?_
    refine lv_sipush (v := 255) X.1 X.2.1 dX12_back_12 (by decide) ?_
    refine lv_icmp_ge (tgt := 36) X.1 X.2.1 dX12_back_15 (by decide) (fun c_2 => ?_) (fun c_2 => ?_)
    · skip
      have hE := ite_t hE c_2
      have ho := ite_tP ho c_2
      refine lv_aload_n X.1 X.2.1 dX12_back_36 rfl (lv_at hl 0 rfl) ?_
      refine lv_iconst (v := 0) X.1 X.2.1 dX12_back_37 (by decide) ?_
      refine p12_32 X I (k := 123) (by decide) rfl lf_X12_279 dX12_back_38 (fun H locs I => ?_)
      refine lv_aload_n X.1 X.2.1 dX12_back_41 rfl (lv_at hl 0 rfl) ?_
      refine g12_27 X I (k := 123) (by decide) rfl lf_X12_58 dX12_back_42 ?_
      refine lv_bipush (v := 12) X.1 X.2.1 dX12_back_45 (by decide) ?_
      refine r_ald X I (k := 140) (n := 255) (by decide) rfl (by unfold vp_in; decide) dX12_back_47 ?_
      have h9 := hE
      exact r_iret X I (e_i (pr_fst h9) (pr_snd h9) rfl) dX12_back_48
    · skip
      have hE := ite_f hE c_2
      have ho := ite_fP ho c_2
      refine lv_aload_n X.1 X.2.1 dX12_back_18 rfl (lv_at hl 0 rfl) ?_
      refine g12_27 X I (k := 123) (by decide) rfl lf_X12_58 dX12_back_19 ?_
      refine lv_iload_n X.1 X.2.1 dX12_back_22 rfl (lv_at hl 1 rfl) ?_
      refine lv_aload_n X.1 X.2.1 dX12_back_23 rfl (lv_at hl 0 rfl) ?_
      refine g12_49 X I (k := 123) (by decide) rfl lf_X12_102 dX12_back_24 ?_
      refine lv_iload_n X.1 X.2.1 dX12_back_27 rfl (lv_at hl 1 rfl) ?_
      have ho1 := ho.1
      have ho := ho.2
      refine r_ald X I (k := 152) (n := 255) (by decide) rfl ho1 dX12_back_28 ?_
      have ho2 := ho.1
      have ho := ho.2
      refine r_ast X I (k := 140) (n := 255) (by decide) rfl ho2 dX12_back_29 (fun H locs I => ?_)
      refine lv_iinc (v := _ + 1) (lv' := [(1, .int _), (0, .ref _)]) X.1 X.2.1 dX12_back_30 hl (k := 1) rfl rfl (by decide) rfl (fun ls hl => ?_)
      refine lv_goto (tgt := 11) X.1 X.2.1 dX12_back_33 (by decide) ?_
      exact ih _ _ _ _ _ I (lv_sub hl [1, 0] rfl) ho (Nat.lt_of_lt_of_le (up_dec c_2) (Nat.le_of_lt_succ hm)) (hE.trans (rfl))
set_option maxHeartbeats 4000000 in
set_option maxRecDepth 100000 in
theorem c12_back (l : Launch) (G : GT) (σ : SI) (τ : SL) (ho : o12_back σ) : Mc l yX12_back cX12_back 2 (some .int) 0 G [.ref (G.2.1 123)] σ τ (Qi G (Ei (f12_back σ).1 (f12_back σ).2 τ)) := by
  refine m_start (by decide +kernel) (Nat.le_of_ble_eq_true rfl) rfl (fun p e s m args below meth c ls X I hl => ?_)
  have hl : lv_has ls 2 [(0, .ref (G.2.1 123))] := hl
  obtain ⟨E, hE⟩ : ∃ E, E = (f12_back σ) := ⟨_, rfl⟩
  rw [← hE]
  unfold o12_back at ho
  refine lv_aload_n X.1 X.2.1 dX12_back_0 rfl (lv_at hl 0 rfl) ?_
  refine g12_50 X I (k := 123) (by decide) rfl lf_X12_282 dX12_back_1 ?_
  refine lv_if_ne (tgt := 9) X.1 X.2.1 dX12_back_4 (by decide) (fun c_1 => ?_) (fun c_1 => ?_)
  · skip
    have hE := ite_f hE c_1
    have ho := ite_fP ho c_1
    refine lv_iconst (v := 0) X.1 X.2.1 dX12_back_9 (by decide) ?_
    refine lv_istore_n (lv' := [(1, .int _), (0, .ref _)]) X.1 X.2.1 dX12_back_10 rfl hl (by decide) rfl (fun ls hl => ?_)
    exact c12_back_c11 X _  _ _ _ _ _ _ I (lv_sub hl [1, 0] rfl) ho (fu1_lt _) (hE.trans (rfl))
  · skip
    have hE := ite_t hE c_1
    have ho := ite_tP ho c_1
    refine lv_iconst (v := (-1)) X.1 X.2.1 dX12_back_7 (by decide) ?_
    have h9 := hE
    exact r_iret X I (e_i (pr_fst h9) (pr_snd h9) rfl) dX12_back_8
noncomputable def f12_count (σ : SI) (x1 : Int32) : Int32 := if x1 = 0 then (σ 123 25) else (if x1 = 1 then (σ 123 26) else (if x1 = 2 then (σ 123 13) else (if x1 = 3 then (σ 123 2) else (if x1 = 4 then (σ 123 29) else (if x1 = 5 then (σ 140 12) else (if x1 = 6 then (σ 140 8) else (if x1 = 7 then (if (σ 123 25) = (0 : Int32) then (-1 : Int32) else (σ 140 10)) else (if x1 = 8 then (f12_doors σ) else (if x1 = 9 then (σ 140 9) else (if x1 = 10 then (σ 140 13) else (if x1 = 11 then (σ 123 30) else (if x1 = 12 then (σ 123 43) else (if x1 = 13 then (σ 123 48) else (if x1 = 14 then (σ 140 14) else (if x1 = 15 then (σ 123 32) else (-1000000 : Int32))))))))))))))))
set_option maxHeartbeats 4000000 in
set_option maxRecDepth 100000 in
theorem c12_count (l : Launch) (G : GT) (σ : SI) (τ : SL) (x1 : Int32) : Mc l yX12_count cX12_count 2 (some .int) 2 G [.ref (G.2.1 123), .int x1] σ τ (Qi G (Ei (f12_count σ x1) σ τ)) := by
  refine m_start (by decide +kernel) (Nat.le_of_ble_eq_true rfl) rfl (fun p e s m args below meth c ls X I hl => ?_)
  have hl : lv_has ls 2 [(0, .ref (G.2.1 123)), (1, .int x1)] := hl
  obtain ⟨E, hE⟩ : ∃ E, E = (f12_count σ x1) := ⟨_, rfl⟩
  rw [← hE]
  refine lv_iload_n X.1 X.2.1 dX12_count_0 rfl (lv_at hl 1 rfl) ?_
  rcases Classical.em (x1 = 0) with c_1 | c_1
  · skip
    have hE := ite_t hE c_1
    refine lv_tableIn (off := 79) (tgt := 80) X.1 X.2.1 dX12_count_1 (by rw [c_1]; decide) (by rw [c_1]; decide) (by rw [c_1]; decide) (by decide) ?_
    refine lv_aload_n X.1 X.2.1 dX12_count_80 rfl (lv_at hl 0 rfl) ?_
    refine g12_25 X I (k := 123) (by decide) rfl lf_X12_264 dX12_count_81 ?_
    have h9 := hE
    exact r_iret X I (e_i h9.symm rfl rfl) dX12_count_84
  have hE := ite_f hE c_1
  rcases Classical.em (x1 = 1) with c_2 | c_2
  · skip
    have hE := ite_t hE c_2
    refine lv_tableIn (off := 84) (tgt := 85) X.1 X.2.1 dX12_count_1 (by rw [c_2]; decide) (by rw [c_2]; decide) (by rw [c_2]; decide) (by decide) ?_
    refine lv_aload_n X.1 X.2.1 dX12_count_85 rfl (lv_at hl 0 rfl) ?_
    refine g12_26 X I (k := 123) (by decide) rfl lf_X12_267 dX12_count_86 ?_
    have h9 := hE
    exact r_iret X I (e_i h9.symm rfl rfl) dX12_count_89
  have hE := ite_f hE c_2
  rcases Classical.em (x1 = 2) with c_3 | c_3
  · skip
    have hE := ite_t hE c_3
    refine lv_tableIn (off := 89) (tgt := 90) X.1 X.2.1 dX12_count_1 (by rw [c_3]; decide) (by rw [c_3]; decide) (by rw [c_3]; decide) (by decide) ?_
    refine lv_aload_n X.1 X.2.1 dX12_count_90 rfl (lv_at hl 0 rfl) ?_
    refine g12_13 X I (k := 123) (by decide) rfl lf_X12_289 dX12_count_91 ?_
    have h9 := hE
    exact r_iret X I (e_i h9.symm rfl rfl) dX12_count_94
  have hE := ite_f hE c_3
  rcases Classical.em (x1 = 3) with c_4 | c_4
  · skip
    have hE := ite_t hE c_4
    refine lv_tableIn (off := 94) (tgt := 95) X.1 X.2.1 dX12_count_1 (by rw [c_4]; decide) (by rw [c_4]; decide) (by rw [c_4]; decide) (by decide) ?_
    refine lv_aload_n X.1 X.2.1 dX12_count_95 rfl (lv_at hl 0 rfl) ?_
    refine g12_2 X I (k := 123) (by decide) rfl lf_X12_112 dX12_count_96 ?_
    have h9 := hE
    exact r_iret X I (e_i h9.symm rfl rfl) dX12_count_99
  have hE := ite_f hE c_4
  rcases Classical.em (x1 = 4) with c_5 | c_5
  · skip
    have hE := ite_t hE c_5
    refine lv_tableIn (off := 99) (tgt := 100) X.1 X.2.1 dX12_count_1 (by rw [c_5]; decide) (by rw [c_5]; decide) (by rw [c_5]; decide) (by decide) ?_
    refine lv_aload_n X.1 X.2.1 dX12_count_100 rfl (lv_at hl 0 rfl) ?_
    refine g12_29 X I (k := 123) (by decide) rfl lf_X12_64 dX12_count_101 ?_
    have h9 := hE
    exact r_iret X I (e_i h9.symm rfl rfl) dX12_count_104
  have hE := ite_f hE c_5
  rcases Classical.em (x1 = 5) with c_6 | c_6
  · skip
    have hE := ite_t hE c_6
    refine lv_tableIn (off := 104) (tgt := 105) X.1 X.2.1 dX12_count_1 (by rw [c_6]; decide) (by rw [c_6]; decide) (by rw [c_6]; decide) (by decide) ?_
    refine lv_aload_n X.1 X.2.1 dX12_count_105 rfl (lv_at hl 0 rfl) ?_
    refine g12_27 X I (k := 123) (by decide) rfl lf_X12_58 dX12_count_106 ?_
    refine lv_bipush (v := 12) X.1 X.2.1 dX12_count_109 (by decide) ?_
    refine r_ald X I (k := 140) (n := 255) (by decide) rfl (by unfold vp_in; decide) dX12_count_111 ?_
    have h9 := hE
    exact r_iret X I (e_i h9.symm rfl rfl) dX12_count_112
  have hE := ite_f hE c_6
  rcases Classical.em (x1 = 6) with c_7 | c_7
  · skip
    have hE := ite_t hE c_7
    refine lv_tableIn (off := 112) (tgt := 113) X.1 X.2.1 dX12_count_1 (by rw [c_7]; decide) (by rw [c_7]; decide) (by rw [c_7]; decide) (by decide) ?_
    refine lv_aload_n X.1 X.2.1 dX12_count_113 rfl (lv_at hl 0 rfl) ?_
    refine g12_27 X I (k := 123) (by decide) rfl lf_X12_58 dX12_count_114 ?_
    refine lv_bipush (v := 8) X.1 X.2.1 dX12_count_117 (by decide) ?_
    refine r_ald X I (k := 140) (n := 255) (by decide) rfl (by unfold vp_in; decide) dX12_count_119 ?_
    have h9 := hE
    exact r_iret X I (e_i h9.symm rfl rfl) dX12_count_120
  have hE := ite_f hE c_7
  rcases Classical.em (x1 = 7) with c_8 | c_8
  · skip
    have hE := ite_t hE c_8
    refine lv_tableIn (off := 120) (tgt := 121) X.1 X.2.1 dX12_count_1 (by rw [c_8]; decide) (by rw [c_8]; decide) (by rw [c_8]; decide) (by decide) ?_
    refine lv_aload_n X.1 X.2.1 dX12_count_121 rfl (lv_at hl 0 rfl) ?_
    refine g12_25 X I (k := 123) (by decide) rfl lf_X12_264 dX12_count_122 ?_
    refine lv_if_ne (tgt := 132) X.1 X.2.1 dX12_count_125 (by decide) (fun c_9 => ?_) (fun c_9 => ?_)
    · skip
      have hE := ite_f hE c_9
      refine lv_aload_n X.1 X.2.1 dX12_count_132 rfl (lv_at hl 0 rfl) ?_
      refine g12_27 X I (k := 123) (by decide) rfl lf_X12_58 dX12_count_133 ?_
      refine lv_bipush (v := 10) X.1 X.2.1 dX12_count_136 (by decide) ?_
      refine r_ald X I (k := 140) (n := 255) (by decide) rfl (by unfold vp_in; decide) dX12_count_138 ?_
      have h9 := hE
      exact r_iret X I (e_i h9.symm rfl rfl) dX12_count_139
    · skip
      have hE := ite_t hE c_9
      refine lv_iconst (v := (-1)) X.1 X.2.1 dX12_count_128 (by decide) ?_
      refine lv_goto (tgt := 139) X.1 X.2.1 dX12_count_129 (by decide) ?_
      have h9 := hE
      exact r_iret X I (e_i h9.symm rfl rfl) dX12_count_139
  have hE := ite_f hE c_8
  rcases Classical.em (x1 = 8) with c_10 | c_10
  · skip
    have hE := ite_t hE c_10
    refine lv_tableIn (off := 139) (tgt := 140) X.1 X.2.1 dX12_count_1 (by rw [c_10]; decide) (by rw [c_10]; decide) (by rw [c_10]; decide) (by decide) ?_
    refine lv_aload_n X.1 X.2.1 dX12_count_140 rfl (lv_at hl 0 rfl) ?_
    refine r_ei I (r_runV X I pk_X12_doors (c12_doors l G _ _) lm_X12_316 (by decide) (cl_12 rfl) rfl rfl rfl hl.1 rfl (Nat.le_of_ble_eq_true rfl) dX12_count_141 ⟨Nat.le_of_ble_eq_true rfl, Nat.le_of_ble_eq_true rfl⟩ ⟨Nat.le_refl 0, Nat.le_refl 0⟩) (fun H locs I => ?_)
    have h9 := hE
    exact r_iret X I (e_i h9.symm rfl rfl) dX12_count_144
  have hE := ite_f hE c_10
  rcases Classical.em (x1 = 9) with c_11 | c_11
  · skip
    have hE := ite_t hE c_11
    refine lv_tableIn (off := 144) (tgt := 145) X.1 X.2.1 dX12_count_1 (by rw [c_11]; decide) (by rw [c_11]; decide) (by rw [c_11]; decide) (by decide) ?_
    refine lv_aload_n X.1 X.2.1 dX12_count_145 rfl (lv_at hl 0 rfl) ?_
    refine g12_27 X I (k := 123) (by decide) rfl lf_X12_58 dX12_count_146 ?_
    refine lv_bipush (v := 9) X.1 X.2.1 dX12_count_149 (by decide) ?_
    refine r_ald X I (k := 140) (n := 255) (by decide) rfl (by unfold vp_in; decide) dX12_count_151 ?_
    have h9 := hE
    exact r_iret X I (e_i h9.symm rfl rfl) dX12_count_152
  have hE := ite_f hE c_11
  rcases Classical.em (x1 = 10) with c_12 | c_12
  · skip
    have hE := ite_t hE c_12
    refine lv_tableIn (off := 152) (tgt := 153) X.1 X.2.1 dX12_count_1 (by rw [c_12]; decide) (by rw [c_12]; decide) (by rw [c_12]; decide) (by decide) ?_
    refine lv_aload_n X.1 X.2.1 dX12_count_153 rfl (lv_at hl 0 rfl) ?_
    refine g12_27 X I (k := 123) (by decide) rfl lf_X12_58 dX12_count_154 ?_
    refine lv_bipush (v := 13) X.1 X.2.1 dX12_count_157 (by decide) ?_
    refine r_ald X I (k := 140) (n := 255) (by decide) rfl (by unfold vp_in; decide) dX12_count_159 ?_
    have h9 := hE
    exact r_iret X I (e_i h9.symm rfl rfl) dX12_count_160
  have hE := ite_f hE c_12
  rcases Classical.em (x1 = 11) with c_13 | c_13
  · skip
    have hE := ite_t hE c_13
    refine lv_tableIn (off := 160) (tgt := 161) X.1 X.2.1 dX12_count_1 (by rw [c_13]; decide) (by rw [c_13]; decide) (by rw [c_13]; decide) (by decide) ?_
    refine lv_aload_n X.1 X.2.1 dX12_count_161 rfl (lv_at hl 0 rfl) ?_
    refine g12_30 X I (k := 123) (by decide) rfl lf_X12_68 dX12_count_162 ?_
    have h9 := hE
    exact r_iret X I (e_i h9.symm rfl rfl) dX12_count_165
  have hE := ite_f hE c_13
  rcases Classical.em (x1 = 12) with c_14 | c_14
  · skip
    have hE := ite_t hE c_14
    refine lv_tableIn (off := 165) (tgt := 166) X.1 X.2.1 dX12_count_1 (by rw [c_14]; decide) (by rw [c_14]; decide) (by rw [c_14]; decide) (by decide) ?_
    refine lv_aload_n X.1 X.2.1 dX12_count_166 rfl (lv_at hl 0 rfl) ?_
    refine g12_43 X I (k := 123) (by decide) rfl lf_X12_273 dX12_count_167 ?_
    have h9 := hE
    exact r_iret X I (e_i h9.symm rfl rfl) dX12_count_170
  have hE := ite_f hE c_14
  rcases Classical.em (x1 = 13) with c_15 | c_15
  · skip
    have hE := ite_t hE c_15
    refine lv_tableIn (off := 170) (tgt := 171) X.1 X.2.1 dX12_count_1 (by rw [c_15]; decide) (by rw [c_15]; decide) (by rw [c_15]; decide) (by decide) ?_
    refine lv_aload_n X.1 X.2.1 dX12_count_171 rfl (lv_at hl 0 rfl) ?_
    refine g12_48 X I (k := 123) (by decide) rfl lf_X12_276 dX12_count_172 ?_
    have h9 := hE
    exact r_iret X I (e_i h9.symm rfl rfl) dX12_count_175
  have hE := ite_f hE c_15
  rcases Classical.em (x1 = 14) with c_16 | c_16
  · skip
    have hE := ite_t hE c_16
    refine lv_tableIn (off := 175) (tgt := 176) X.1 X.2.1 dX12_count_1 (by rw [c_16]; decide) (by rw [c_16]; decide) (by rw [c_16]; decide) (by decide) ?_
    refine lv_aload_n X.1 X.2.1 dX12_count_176 rfl (lv_at hl 0 rfl) ?_
    refine g12_27 X I (k := 123) (by decide) rfl lf_X12_58 dX12_count_177 ?_
    refine lv_bipush (v := 14) X.1 X.2.1 dX12_count_180 (by decide) ?_
    refine r_ald X I (k := 140) (n := 255) (by decide) rfl (by unfold vp_in; decide) dX12_count_182 ?_
    have h9 := hE
    exact r_iret X I (e_i h9.symm rfl rfl) dX12_count_183
  have hE := ite_f hE c_16
  rcases Classical.em (x1 = 15) with c_17 | c_17
  · skip
    have hE := ite_t hE c_17
    refine lv_tableIn (off := 183) (tgt := 184) X.1 X.2.1 dX12_count_1 (by rw [c_17]; decide) (by rw [c_17]; decide) (by rw [c_17]; decide) (by decide) ?_
    refine lv_aload_n X.1 X.2.1 dX12_count_184 rfl (lv_at hl 0 rfl) ?_
    refine g12_32 X I (k := 123) (by decide) rfl lf_X12_279 dX12_count_185 ?_
    have h9 := hE
    exact r_iret X I (e_i h9.symm rfl rfl) dX12_count_188
  have hE := ite_f hE c_17
  refine lv_tableD (L := [0, 1, 2, 3, 4, 5, 6, 7, 8, 9, 10, 11, 12, 13, 14, 15]) (tgt := 189) X.1 X.2.1 dX12_count_1 (by decide) (List.forall_mem_cons.mpr ⟨c_1, (List.forall_mem_cons.mpr ⟨c_2, (List.forall_mem_cons.mpr ⟨c_3, (List.forall_mem_cons.mpr ⟨c_4, (List.forall_mem_cons.mpr ⟨c_5, (List.forall_mem_cons.mpr ⟨c_6, (List.forall_mem_cons.mpr ⟨c_7, (List.forall_mem_cons.mpr ⟨c_8, (List.forall_mem_cons.mpr ⟨c_10, (List.forall_mem_cons.mpr ⟨c_11, (List.forall_mem_cons.mpr ⟨c_12, (List.forall_mem_cons.mpr ⟨c_13, (List.forall_mem_cons.mpr ⟨c_14, (List.forall_mem_cons.mpr ⟨c_15, (List.forall_mem_cons.mpr ⟨c_16, (List.forall_mem_cons.mpr ⟨c_17, (fun _ h => absurd h List.not_mem_nil)⟩)⟩)⟩)⟩)⟩)⟩)⟩)⟩)⟩)⟩)⟩)⟩)⟩)⟩)⟩)⟩) (by decide) ?_
  refine lv_ldcw X.1 X.2.1 (v := (-1000000)) X.2.2.2.2.1 (X.2.2.2.1 _ lq_X12_418) dX12_count_189 ?_
  have h9 := hE
  exact r_iret X I (e_i h9.symm rfl rfl) dX12_count_192
