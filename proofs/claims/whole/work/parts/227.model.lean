noncomputable def f12_standsFirst (σ : SI) (x1 : Int32) (x2 : Int32) (x3 : Int32) : Int32 × SI := let r0 := (f12_standsBy σ x1 x2 x3 (0 : Int32) (f12_stepsTo σ (-1 : Int32) x1)); r0
noncomputable def o12_standsFirst (σ : SI) (x1 : Int32) (x2 : Int32) (x3 : Int32) : Prop := (o12_stepsTo σ (-1 : Int32) x1) ∧ ((o12_standsBy σ x1 x2 x3 (0 : Int32) (f12_stepsTo σ (-1 : Int32) x1)) ∧ (let r0 := (f12_standsBy σ x1 x2 x3 (0 : Int32) (f12_stepsTo σ (-1 : Int32) x1)); True))
theorem w_f12_standsFirst (σ : SI) (x1 : Int32) (x2 : Int32) (x3 : Int32) (a : Nat) (h0 : a ≠ 132) (h1 : a ≠ 133) : (f12_standsFirst σ x1 x2 x3).2 a = σ a := by
  refine fp_to2 ?_
  unfold f12_standsFirst
  exact (w_f12_standsBy _ _ _ _ _ _ a h0 h1)
set_option maxHeartbeats 4000000 in
set_option maxRecDepth 100000 in
theorem c12_standsFirst (l : Launch) (G : GT) (σ : SI) (τ : SL) (x1 : Int32) (x2 : Int32) (x3 : Int32) (ho : o12_standsFirst σ x1 x2 x3) : Mc l yX12_standsFirst cX12_standsFirst 4 (some .int) 6 G [.ref (G.2.1 123), .int x1, .int x2, .int x3] σ τ (Qi G (Ei (f12_standsFirst σ x1 x2 x3).1 (f12_standsFirst σ x1 x2 x3).2 τ)) := by
  refine m_start (by decide +kernel) (Nat.le_of_ble_eq_true rfl) rfl (fun p e s m args below meth c ls X I hl => ?_)
  have hl : lv_has ls 4 [(0, .ref (G.2.1 123)), (1, .int x1), (2, .int x2), (3, .int x3)] := hl
  obtain ⟨E, hE⟩ : ∃ E, E = (f12_standsFirst σ x1 x2 x3) := ⟨_, rfl⟩
  rw [← hE]
  unfold o12_standsFirst at ho
  refine lv_aload_n X.1 X.2.1 dX12_standsFirst_0 rfl (lv_at hl 0 rfl) ?_
  refine lv_iload_n X.1 X.2.1 dX12_standsFirst_1 rfl (lv_at hl 1 rfl) ?_
  refine lv_iload_n X.1 X.2.1 dX12_standsFirst_2 rfl (lv_at hl 2 rfl) ?_
  refine lv_iload_n X.1 X.2.1 dX12_standsFirst_3 rfl (lv_at hl 3 rfl) ?_
  refine lv_iconst (v := 0) X.1 X.2.1 dX12_standsFirst_4 (by decide) ?_
  refine lv_aload_n X.1 X.2.1 dX12_standsFirst_5 rfl (lv_at hl 0 rfl) ?_
  refine lv_iconst (v := (-1)) X.1 X.2.1 dX12_standsFirst_6 (by decide) ?_
  refine lv_iload_n X.1 X.2.1 dX12_standsFirst_7 rfl (lv_at hl 1 rfl) ?_
  have ho1 := ho.1
  have ho := ho.2
  refine r_ei I (r_runV X I pk_X12_stepsTo (c12_stepsTo l G _ _ _ _ ho1) lm_X12_305 (by decide) (cl_12 rfl) rfl rfl rfl hl.1 rfl (Nat.le_of_ble_eq_true rfl) dX12_standsFirst_8 ⟨Nat.le_of_ble_eq_true rfl, Nat.le_of_ble_eq_true rfl⟩ ⟨Nat.le_refl 0, Nat.le_refl 0⟩) (fun H locs I => ?_)
  have ho2 := ho.1
  have ho := ho.2
  refine r_ei I (r_runV X I pk_X12_standsBy (c12_standsBy l G _ _ _ _ _ _ _ ho2) lm_X12_319 (by decide) (cl_12 rfl) rfl rfl rfl hl.1 rfl (Nat.le_of_ble_eq_true rfl) dX12_standsFirst_11 ⟨Nat.le_of_ble_eq_true rfl, Nat.le_of_ble_eq_true rfl⟩ ⟨Nat.le_refl 0, Nat.le_refl 0⟩) (fun H locs I => ?_)
  have h9 := hE
  exact r_iret X I (e_i (congrArg Prod.fst h9).symm (congrArg Prod.snd h9).symm rfl) dX12_standsFirst_14
noncomputable def f12_isGrief_c2 (x1 : Int32) (x2 : Int32) : Nat → Int32 → SI → (Bool × SI)
  | 0, _, σ => (false, σ)
  | fu + 1, v3, σ => if (σ 123 43) ≤ v3 then (true, σ) else (if (σ 145 (Int32.toNatClampNeg v3)) = x1 then (let r0 := (f12_standsFirst σ x1 x2 (σ 146 (Int32.toNatClampNeg v3))); if r0.1 = (r0.2 147 (Int32.toNatClampNeg v3)) then (f12_isGrief_c2 x1 x2 fu (v3 + 1) r0.2) else (false, r0.2)) else (f12_isGrief_c2 x1 x2 fu (v3 + 1) σ))
noncomputable def o12_isGrief_c2 (x1 : Int32) (x2 : Int32) : Nat → Int32 → SI → Prop
  | 0, _, _ => True
  | fu + 1, v3, σ => if (σ 123 43) ≤ v3 then True else ((vp_in v3 10) ∧ (if (σ 145 (Int32.toNatClampNeg v3)) = x1 then ((vp_in v3 10) ∧ ((o12_standsFirst σ x1 x2 (σ 146 (Int32.toNatClampNeg v3))) ∧ (let r0 := (f12_standsFirst σ x1 x2 (σ 146 (Int32.toNatClampNeg v3))); (vp_in v3 10) ∧ (if r0.1 = (r0.2 147 (Int32.toNatClampNeg v3)) then (o12_isGrief_c2 x1 x2 fu (v3 + 1) r0.2) else True)))) else (o12_isGrief_c2 x1 x2 fu (v3 + 1) σ)))
noncomputable def f12_isGrief (σ : SI) (x1 : Int32) (x2 : Int32) : Bool × SI := (f12_isGrief_c2 x1 x2 (fu1 ((Int32.toInt (σ 123 43) - Int32.toInt (0 : Int32)).toNat)) (0 : Int32) σ)
noncomputable def o12_isGrief (σ : SI) (x1 : Int32) (x2 : Int32) : Prop := (o12_isGrief_c2 x1 x2 (fu1 ((Int32.toInt (σ 123 43) - Int32.toInt (0 : Int32)).toNat)) (0 : Int32) σ)
theorem w_f12_isGrief_c2 (x1 : Int32) (x2 : Int32) (a : Nat) (h0 : a ≠ 132) (h1 : a ≠ 133) : ∀ (fu : Nat) (v3 : Int32) (σ : SI), (f12_isGrief_c2 x1 x2 fu v3 σ).2 a = σ a := by
  intro fu
  induction fu with
  | zero => intro v3 σ; exact rfl
  | succ fu ih =>
    intro v3 σ
    refine fp_to2 ?_
    unfold f12_isGrief_c2
    exact (fr_ite2 (fr_mk21 rfl) (fr_ite2 (fr_ite2 (fp_of2 (((ih _ _).trans (w_f12_standsFirst _ _ _ _ a h0 h1)))) (fr_mk21 (w_f12_standsFirst _ _ _ _ a h0 h1))) (fp_of2 ((ih _ _)))))
theorem w_f12_isGrief (σ : SI) (x1 : Int32) (x2 : Int32) (a : Nat) (h0 : a ≠ 132) (h1 : a ≠ 133) : (f12_isGrief σ x1 x2).2 a = σ a := by
  refine fp_to2 ?_
  unfold f12_isGrief
  exact (fp_of2 ((w_f12_isGrief_c2 _ _ a h0 h1 _ _ _)))
set_option maxHeartbeats 4000000 in
set_option maxRecDepth 100000 in
theorem c12_isGrief_c2 {l : Launch} {p : Program} {e : Env} {s : State} {m : MethodId} {args : Array Value} {below : List Frame} {meth : Method} {c : Code} {G : GT} (X : CX p s m args meth c cX12_isGrief RX12 4 (some .boolean) G) {E : Bool × SI} (τ : SL) (x1 : Int32) (x2 : Int32) : ∀ (fu : Nat) (v3 : Int32) (σ : SI) (H : Heap) (locs : List Loc) (ls : Array Slot), IX G s H locs σ τ → lv_has ls 4 [(0, .ref (G.2.1 123)), (1, .int x1), (2, .int x2), (3, .int v3)] → (o12_isGrief_c2 x1 x2 fu v3 σ) → (Int32.toInt (σ 123 43) - Int32.toInt v3).toNat < fu → E = (f12_isGrief_c2 x1 x2 fu v3 σ) → W p l e (rmN 7) s m args below meth c H locs 0 0 (MQ below ((Qi G (Ei (b2i E.1) E.2 τ)) s.heap.size) args s 0 0 (AW G s.heap.size)) (F0 m 2 ls []) := by
  intro fu
  induction fu with
  | zero =>
    intro v3 σ H locs ls I hl  ho hm hE
    exact absurd hm (Nat.not_lt_zero _)
  | succ fu ih =>
    intro v3 σ H locs ls I hl  ho hm hE
    unfold o12_isGrief_c2 at ho
    refine lv_iload_n X.1 X.2.1 dX12_isGrief_2 rfl (lv_at hl 3 rfl) ?_
    refine lv_aload_n X.1 X.2.1 dX12_isGrief_3 rfl (lv_at hl 0 rfl) ?_
    refine g12_43 X I (k := 123) (by decide) rfl lf_X12_273 dX12_isGrief_4 ?_
    refine lv_icmp_ge (tgt := 49) X.1 X.2.1 dX12_isGrief_7 (by decide) (fun c_1 => ?_) (fun c_1 => ?_)
    · skip
      have hE := ite_t hE c_1
      have ho := ite_tP ho c_1
      refine lv_iconst (v := 1) X.1 X.2.1 dX12_isGrief_49 (by decide) ?_
      have h9 := hE
      exact r_zret X I rfl (e_i (congrArg b2i (pr_fst (a := true) h9)) (pr_snd h9) rfl) dX12_isGrief_50
    · skip
      have hE := ite_f hE c_1
      have ho := ite_fP ho c_1
      refine lv_aload_n X.1 X.2.1 dX12_isGrief_10 rfl (lv_at hl 0 rfl) ?_
      refine g12_40 X I (k := 123) (by decide) rfl lf_X12_80 dX12_isGrief_11 ?_
      refine lv_iload_n X.1 X.2.1 dX12_isGrief_14 rfl (lv_at hl 3 rfl) ?_
      have ho1 := ho.1
      have ho := ho.2
      refine r_ald X I (k := 145) (n := 10) (by decide) rfl ho1 dX12_isGrief_15 ?_
      refine lv_iload_n X.1 X.2.1 dX12_isGrief_16 rfl (lv_at hl 1 rfl) ?_
      refine lv_icmp_ne (tgt := 43) X.1 X.2.1 dX12_isGrief_17 (by decide) (fun c_2 => ?_) (fun c_2 => ?_)
      · skip
        have hE := ite_f hE c_2
        have ho := ite_fP ho c_2
        refine lv_iinc (v := _ + 1) (lv' := [(3, .int _), (0, .ref _), (1, .int _), (2, .int _)]) X.1 X.2.1 dX12_isGrief_43 hl (k := 3) rfl rfl (by decide) rfl (fun ls hl => ?_)
        refine lv_goto (tgt := 2) X.1 X.2.1 dX12_isGrief_46 (by decide) ?_
        exact ih _ _ _ _ _ I (lv_sub hl [1, 2, 3, 0] rfl) ho (Nat.lt_of_lt_of_le (dec_c (by first | with_reducible rfl | simp [w_f12_standsFirst, sp_n]) (up_dec c_1)) (Nat.le_of_lt_succ hm)) (hE.trans (rfl))
      · skip
        have hE := ite_t hE c_2
        have ho := ite_tP ho c_2
        refine lv_aload_n X.1 X.2.1 dX12_isGrief_20 rfl (lv_at hl 0 rfl) ?_
        refine lv_iload_n X.1 X.2.1 dX12_isGrief_21 rfl (lv_at hl 1 rfl) ?_
        refine lv_iload_n X.1 X.2.1 dX12_isGrief_22 rfl (lv_at hl 2 rfl) ?_
        refine lv_aload_n X.1 X.2.1 dX12_isGrief_23 rfl (lv_at hl 0 rfl) ?_
        refine g12_41 X I (k := 123) (by decide) rfl lf_X12_83 dX12_isGrief_24 ?_
        refine lv_iload_n X.1 X.2.1 dX12_isGrief_27 rfl (lv_at hl 3 rfl) ?_
        have ho2 := ho.1
        have ho := ho.2
        refine r_ald X I (k := 146) (n := 10) (by decide) rfl ho2 dX12_isGrief_28 ?_
        have ho3 := ho.1
        have ho := ho.2
        refine r_ei I (r_runV X I pk_X12_standsFirst (c12_standsFirst l G _ _ _ _ _ ho3) lm_X12_403 (by decide) (cl_12 rfl) rfl rfl rfl hl.1 rfl (Nat.le_of_ble_eq_true rfl) dX12_isGrief_29 ⟨Nat.le_of_ble_eq_true rfl, Nat.le_of_ble_eq_true rfl⟩ ⟨Nat.le_refl 0, Nat.le_refl 0⟩) (fun H locs I => ?_)
        refine lv_aload_n X.1 X.2.1 dX12_isGrief_32 rfl (lv_at hl 0 rfl) ?_
        refine g12_42 X I (k := 123) (by decide) rfl lf_X12_86 dX12_isGrief_33 ?_
        refine lv_iload_n X.1 X.2.1 dX12_isGrief_36 rfl (lv_at hl 3 rfl) ?_
        have ho4 := ho.1
        have ho := ho.2
        refine r_ald X I (k := 147) (n := 10) (by decide) rfl ho4 dX12_isGrief_37 ?_
        refine lv_icmp_eq (tgt := 43) X.1 X.2.1 dX12_isGrief_38 (by decide) (fun c_3 => ?_) (fun c_3 => ?_)
        · skip
          have hE := ite_t hE c_3
          have ho := ite_tP ho c_3
          refine lv_iinc (v := _ + 1) (lv' := [(3, .int _), (0, .ref _), (1, .int _), (2, .int _)]) X.1 X.2.1 dX12_isGrief_43 hl (k := 3) rfl rfl (by decide) rfl (fun ls hl => ?_)
          refine lv_goto (tgt := 2) X.1 X.2.1 dX12_isGrief_46 (by decide) ?_
          exact ih _ _ _ _ _ I (lv_sub hl [1, 2, 3, 0] rfl) ho (Nat.lt_of_lt_of_le (dec_c (by first | with_reducible rfl | simp [w_f12_standsFirst, sp_n]) (up_dec c_1)) (Nat.le_of_lt_succ hm)) (hE.trans (rfl))
        · skip
          have hE := ite_f hE c_3
          have ho := ite_fP ho c_3
          refine lv_iconst (v := 0) X.1 X.2.1 dX12_isGrief_41 (by decide) ?_
          have h9 := hE
          exact r_zret X I rfl (e_i (congrArg b2i (pr_fst (a := false) h9)) (pr_snd h9) rfl) dX12_isGrief_42
set_option maxHeartbeats 4000000 in
set_option maxRecDepth 100000 in
theorem c12_isGrief (l : Launch) (G : GT) (σ : SI) (τ : SL) (x1 : Int32) (x2 : Int32) (ho : o12_isGrief σ x1 x2) : Mc l yX12_isGrief cX12_isGrief 4 (some .boolean) 7 G [.ref (G.2.1 123), .int x1, .int x2] σ τ (Qi G (Ei (b2i (f12_isGrief σ x1 x2).1) (f12_isGrief σ x1 x2).2 τ)) := by
  refine m_start (by decide +kernel) (Nat.le_of_ble_eq_true rfl) rfl (fun p e s m args below meth c ls X I hl => ?_)
  have hl : lv_has ls 4 [(0, .ref (G.2.1 123)), (1, .int x1), (2, .int x2)] := hl
  obtain ⟨E, hE⟩ : ∃ E, E = (f12_isGrief σ x1 x2) := ⟨_, rfl⟩
  rw [← hE]
  unfold o12_isGrief at ho
  refine lv_iconst (v := 0) X.1 X.2.1 dX12_isGrief_0 (by decide) ?_
  refine lv_istore_n (lv' := [(3, .int _), (0, .ref _), (1, .int _), (2, .int _)]) X.1 X.2.1 dX12_isGrief_1 rfl hl (by decide) rfl (fun ls hl => ?_)
  exact c12_isGrief_c2 X _ _ _ _ _ _ _ _ _ I (lv_sub hl [1, 2, 3, 0] rfl) ho (fu1_lt _) (hE.trans (rfl))
noncomputable def f12_fits_c20 (x1 : Int32) (x2 : Int32) : Nat → Int32 → Int32 → SI → (Int32 × SI)
  | 0, _, _, σ => (0, σ)
  | fu + 1, v3, v4, σ => if (30 : Int32) < v4 then (if x2 = (-1 : Int32) then (v3, σ) else ((-1 : Int32), σ)) else (let r0 := (f12_isGrief σ x1 v4); if r0.1 = true then (if v3 = x2 then (v4, r0.2) else (f12_fits_c20 x1 x2 fu (v3 + 1) (v4 + 1) r0.2)) else (f12_fits_c20 x1 x2 fu v3 (v4 + 1) r0.2))
noncomputable def o12_fits_c20 (x1 : Int32) (x2 : Int32) : Nat → Int32 → Int32 → SI → Prop
  | 0, _, _, _ => True
  | fu + 1, v3, v4, σ => if (30 : Int32) < v4 then (if x2 = (-1 : Int32) then True else True) else ((o12_isGrief σ x1 v4) ∧ (let r0 := (f12_isGrief σ x1 v4); if r0.1 = true then (if v3 = x2 then True else (o12_fits_c20 x1 x2 fu (v3 + 1) (v4 + 1) r0.2)) else (o12_fits_c20 x1 x2 fu v3 (v4 + 1) r0.2)))
noncomputable def f12_fits (σ : SI) (x1 : Int32) (x2 : Int32) : Int32 × SI := if (f12_isHouse σ x1) = true then (if (-1 : Int32) ≤ x2 then (f12_fits_c20 x1 x2 (fu1 ((Int32.toInt (30 : Int32) + 1 - Int32.toInt (0 : Int32)).toNat)) (0 : Int32) (0 : Int32) σ) else ((-1 : Int32), σ)) else ((-1 : Int32), σ)
noncomputable def o12_fits (σ : SI) (x1 : Int32) (x2 : Int32) : Prop := if (f12_isHouse σ x1) = true then (if (-1 : Int32) ≤ x2 then (o12_fits_c20 x1 x2 (fu1 ((Int32.toInt (30 : Int32) + 1 - Int32.toInt (0 : Int32)).toNat)) (0 : Int32) (0 : Int32) σ) else True) else True
theorem w_f12_fits_c20 (x1 : Int32) (x2 : Int32) (a : Nat) (h0 : a ≠ 132) (h1 : a ≠ 133) : ∀ (fu : Nat) (v3 : Int32) (v4 : Int32) (σ : SI), (f12_fits_c20 x1 x2 fu v3 v4 σ).2 a = σ a := by
  intro fu
  induction fu with
  | zero => intro v3 v4 σ; exact rfl
  | succ fu ih =>
    intro v3 v4 σ
    refine fp_to2 ?_
    unfold f12_fits_c20
    exact (fr_ite2 (fr_ite2 (fr_mk21 rfl) (fr_mk21 rfl)) (fr_ite2 (fr_ite2 (fr_mk21 (w_f12_isGrief _ _ _ a h0 h1)) (fp_of2 (((ih _ _ _).trans (w_f12_isGrief _ _ _ a h0 h1))))) (fp_of2 (((ih _ _ _).trans (w_f12_isGrief _ _ _ a h0 h1))))))
theorem w_f12_fits (σ : SI) (x1 : Int32) (x2 : Int32) (a : Nat) (h0 : a ≠ 132) (h1 : a ≠ 133) : (f12_fits σ x1 x2).2 a = σ a := by
  refine fp_to2 ?_
  unfold f12_fits
  exact (fr_ite2 (fr_ite2 (fp_of2 ((w_f12_fits_c20 _ _ a h0 h1 _ _ _ _))) (fr_mk21 rfl)) (fr_mk21 rfl))
set_option maxHeartbeats 4000000 in
set_option maxRecDepth 100000 in
theorem c12_fits_c20 {l : Launch} {p : Program} {e : Env} {s : State} {m : MethodId} {args : Array Value} {below : List Frame} {meth : Method} {c : Code} {G : GT} (X : CX p s m args meth c cX12_fits RX12 5 (some .int) G) {E : Int32 × SI} (τ : SL) (x1 : Int32) (x2 : Int32) : ∀ (fu : Nat) (v3 : Int32) (v4 : Int32) (σ : SI) (H : Heap) (locs : List Loc) (ls : Array Slot), IX G s H locs σ τ → lv_has ls 5 [(0, .ref (G.2.1 123)), (1, .int x1), (2, .int x2), (3, .int v3), (4, .int v4)] → (o12_fits_c20 x1 x2 fu v3 v4 σ) → (Int32.toInt (30 : Int32) + 1 - Int32.toInt v4).toNat < fu → E = (f12_fits_c20 x1 x2 fu v3 v4 σ) → W p l e (rmN 8) s m args below meth c H locs 0 0 (MQ below ((Qi G (Ei E.1 E.2 τ)) s.heap.size) args s 0 0 (AW G s.heap.size)) (F0 m 20 ls []) := by
  intro fu
  induction fu with
  | zero =>
    intro v3 v4 σ H locs ls I hl  ho hm hE
    exact absurd hm (Nat.not_lt_zero _)
  | succ fu ih =>
    intro v3 v4 σ H locs ls I hl  ho hm hE
    unfold o12_fits_c20 at ho
    refine lv_iload X.1 X.2.1 dX12_fits_20 (lv_at hl 4 rfl) ?_
    refine lv_bipush (v := 30) X.1 X.2.1 dX12_fits_22 (by decide) ?_
    refine lv_icmp_gt (tgt := 54) X.1 X.2.1 dX12_fits_24 (by decide) (fun c_3 => ?_) (fun c_3 => ?_)
    · skip
      have hE := ite_t hE c_3
      have ho := ite_tP ho c_3
      refine lv_iload_n X.1 X.2.1 dX12_fits_54 rfl (lv_at hl 2 rfl) ?_
      refine lv_iconst (v := (-1)) X.1 X.2.1 dX12_fits_55 (by decide) ?_
      refine lv_icmp_ne (tgt := 63) X.1 X.2.1 dX12_fits_56 (by decide) (fun c_4 => ?_) (fun c_4 => ?_)
      · skip
        have hE := ite_f hE c_4
        have ho := ite_fP ho c_4
        refine lv_iconst (v := (-1)) X.1 X.2.1 dX12_fits_63 (by decide) ?_
        have h9 := hE
        exact r_iret X I (e_i (pr_fst h9) (pr_snd h9) rfl) dX12_fits_64
      · skip
        have hE := ite_t hE c_4
        have ho := ite_tP ho c_4
        refine lv_iload_n X.1 X.2.1 dX12_fits_59 rfl (lv_at hl 3 rfl) ?_
        refine lv_goto (tgt := 64) X.1 X.2.1 dX12_fits_60 (by decide) ?_
        have h9 := hE
        exact r_iret X I (e_i (pr_fst h9) (pr_snd h9) rfl) dX12_fits_64
    · skip
      have hE := ite_f hE c_3
      have ho := ite_fP ho c_3
      refine lv_aload_n X.1 X.2.1 dX12_fits_27 rfl (lv_at hl 0 rfl) ?_
      refine lv_iload_n X.1 X.2.1 dX12_fits_28 rfl (lv_at hl 1 rfl) ?_
      refine lv_iload X.1 X.2.1 dX12_fits_29 (lv_at hl 4 rfl) ?_
      have ho1 := ho.1
      have ho := ho.2
      refine r_ei I (r_runV X I pk_X12_isGrief (c12_isGrief l G _ _ _ _ ho1) lm_X12_406 (by decide) (cl_12 rfl) rfl rfl rfl hl.1 rfl (Nat.le_of_ble_eq_true rfl) dX12_fits_31 ⟨Nat.le_of_ble_eq_true rfl, Nat.le_of_ble_eq_true rfl⟩ ⟨Nat.le_refl 0, Nat.le_refl 0⟩) (fun H locs I => ?_)
      refine lv_if_eq (tgt := 48) X.1 X.2.1 dX12_fits_34 (by decide) (fun c_5 => ?_) (fun c_5 => ?_)
      · skip
        have hE := ite_f hE (b2i_n c_5)
        have ho := ite_fP ho (b2i_n c_5)
        refine lv_iinc (v := _ + 1) (lv' := [(4, .int _), (0, .ref _), (1, .int _), (2, .int _), (3, .int _)]) X.1 X.2.1 dX12_fits_48 hl (k := 4) rfl rfl (by decide) rfl (fun ls hl => ?_)
        refine lv_goto (tgt := 20) X.1 X.2.1 dX12_fits_51 (by decide) ?_
        exact ih _ _ _ _ _ _ I (lv_sub hl [1, 2, 3, 4, 0] rfl) ho (Nat.lt_of_lt_of_le (up_decE (by decide) c_3) (Nat.le_of_lt_succ hm)) (hE.trans (rfl))
      · skip
        have hE := ite_t hE (b2i_y c_5)
        have ho := ite_tP ho (b2i_y c_5)
        refine lv_iload_n X.1 X.2.1 dX12_fits_37 rfl (lv_at hl 3 rfl) ?_
        refine lv_iload_n X.1 X.2.1 dX12_fits_38 rfl (lv_at hl 2 rfl) ?_
        refine lv_icmp_ne (tgt := 45) X.1 X.2.1 dX12_fits_39 (by decide) (fun c_6 => ?_) (fun c_6 => ?_)
        · skip
          have hE := ite_f hE c_6
          have ho := ite_fP ho c_6
          refine lv_iinc (v := _ + 1) (lv' := [(3, .int _), (0, .ref _), (1, .int _), (2, .int _), (4, .int _)]) X.1 X.2.1 dX12_fits_45 hl (k := 3) rfl rfl (by decide) rfl (fun ls hl => ?_)
          refine lv_iinc (v := _ + 1) (lv' := [(4, .int _), (3, .int _), (0, .ref _), (1, .int _), (2, .int _)]) X.1 X.2.1 dX12_fits_48 hl (k := 4) rfl rfl (by decide) rfl (fun ls hl => ?_)
          refine lv_goto (tgt := 20) X.1 X.2.1 dX12_fits_51 (by decide) ?_
          exact ih _ _ _ _ _ _ I (lv_sub hl [2, 3, 4, 1, 0] rfl) ho (Nat.lt_of_lt_of_le (up_decE (by decide) c_3) (Nat.le_of_lt_succ hm)) (hE.trans (rfl))
        · skip
          have hE := ite_t hE c_6
          have ho := ite_tP ho c_6
          refine lv_iload X.1 X.2.1 dX12_fits_42 (lv_at hl 4 rfl) ?_
          have h9 := hE
          exact r_iret X I (e_i (pr_fst h9) (pr_snd h9) rfl) dX12_fits_44
set_option maxHeartbeats 4000000 in
set_option maxRecDepth 100000 in
theorem c12_fits (l : Launch) (G : GT) (σ : SI) (τ : SL) (x1 : Int32) (x2 : Int32) (ho : o12_fits σ x1 x2) : Mc l yX12_fits cX12_fits 5 (some .int) 8 G [.ref (G.2.1 123), .int x1, .int x2] σ τ (Qi G (Ei (f12_fits σ x1 x2).1 (f12_fits σ x1 x2).2 τ)) := by
  refine m_start (by decide +kernel) (Nat.le_of_ble_eq_true rfl) rfl (fun p e s m args below meth c ls X I hl => ?_)
  have hl : lv_has ls 5 [(0, .ref (G.2.1 123)), (1, .int x1), (2, .int x2)] := hl
  obtain ⟨E, hE⟩ : ∃ E, E = (f12_fits σ x1 x2) := ⟨_, rfl⟩
  rw [← hE]
  unfold o12_fits at ho
  refine lv_aload_n X.1 X.2.1 dX12_fits_0 rfl (lv_at hl 0 rfl) ?_
  refine lv_iload_n X.1 X.2.1 dX12_fits_1 rfl (lv_at hl 1 rfl) ?_
  refine r_ei I (r_runV X I pk_X12_isHouse (c12_isHouse l G _ _ _) lm_X12_332 (by decide) (cl_12 rfl) rfl rfl rfl hl.1 rfl (Nat.le_of_ble_eq_true rfl) dX12_fits_2 ⟨Nat.le_of_ble_eq_true rfl, Nat.le_of_ble_eq_true rfl⟩ ⟨Nat.le_refl 0, Nat.le_refl 0⟩) (fun H locs I => ?_)
  refine lv_if_eq (tgt := 13) X.1 X.2.1 dX12_fits_5 (by decide) (fun c_1 => ?_) (fun c_1 => ?_)
  · skip
    have hE := ite_f hE (b2i_n c_1)
    have ho := ite_fP ho (b2i_n c_1)
    refine lv_iconst (v := (-1)) X.1 X.2.1 dX12_fits_13 (by decide) ?_
    have h9 := hE
    exact r_iret X I (e_i (pr_fst h9) (pr_snd h9) rfl) dX12_fits_14
  · skip
    have hE := ite_t hE (b2i_y c_1)
    have ho := ite_tP ho (b2i_y c_1)
    refine lv_iload_n X.1 X.2.1 dX12_fits_8 rfl (lv_at hl 2 rfl) ?_
    refine lv_iconst (v := (-1)) X.1 X.2.1 dX12_fits_9 (by decide) ?_
    refine lv_icmp_ge (tgt := 15) X.1 X.2.1 dX12_fits_10 (by decide) (fun c_2 => ?_) (fun c_2 => ?_)
    · skip
      have hE := ite_t hE c_2
      have ho := ite_tP ho c_2
      refine lv_iconst (v := 0) X.1 X.2.1 dX12_fits_15 (by decide) ?_
      refine lv_istore_n (lv' := [(3, .int _), (0, .ref _), (1, .int _), (2, .int _)]) X.1 X.2.1 dX12_fits_16 rfl hl (by decide) rfl (fun ls hl => ?_)
      refine lv_iconst (v := 0) X.1 X.2.1 dX12_fits_17 (by decide) ?_
      refine lv_istore (lv' := [(4, .int _), (3, .int _), (0, .ref _), (1, .int _), (2, .int _)]) X.1 X.2.1 dX12_fits_18 hl (by decide) rfl (fun ls hl => ?_)
      exact c12_fits_c20 X _ _ _ _ _ _ _ _ _ _ I (lv_sub hl [2, 3, 4, 1, 0] rfl) ho (fu1_lt _) (hE.trans (rfl))
    · skip
      have hE := ite_f hE c_2
      have ho := ite_fP ho c_2
      refine lv_iconst (v := (-1)) X.1 X.2.1 dX12_fits_13 (by decide) ?_
      have h9 := hE
      exact r_iret X I (e_i (pr_fst h9) (pr_snd h9) rfl) dX12_fits_14
noncomputable def f12_mostAlike_c26 (x1 : Int32) (x2 : Int32) (K : Int32 → Int32 → SI → (Int32 × SI)) : Nat → Int32 → Int32 → SI → (Int32 × SI)
  | 0, v3, v4, σ => (K v3 v4 σ)
  | fu + 1, v3, v4, σ => if (30 : Int32) < v4 then (K v3 v4 σ) else (let r0 := (f12_isGrief σ x1 v4); if r0.1 = true then (let r1 := (f12_standsFirst r0.2 x1 v4 x2); let s2 := sp r1.2 148 (Int32.toNatClampNeg r1.1) ((r1.2 148 (Int32.toNatClampNeg r1.1)) + (1 : Int32)); (f12_mostAlike_c26 x1 x2 K fu (if v3 < (s2 148 (Int32.toNatClampNeg r1.1)) then (s2 148 (Int32.toNatClampNeg r1.1)) else v3) (v4 + 1) s2)) else (f12_mostAlike_c26 x1 x2 K fu v3 (v4 + 1) r0.2))
noncomputable def o12_mostAlike_c26 (x1 : Int32) (x2 : Int32) (oK : Int32 → Int32 → SI → Prop) : Nat → Int32 → Int32 → SI → Prop
  | 0, _, _, _ => True
  | fu + 1, v3, v4, σ => if (30 : Int32) < v4 then (oK v3 v4 σ) else ((o12_isGrief σ x1 v4) ∧ (let r0 := (f12_isGrief σ x1 v4); if r0.1 = true then ((o12_standsFirst r0.2 x1 v4 x2) ∧ (let r1 := (f12_standsFirst r0.2 x1 v4 x2); (vp_in r1.1 61) ∧ ((vp_in r1.1 61) ∧ (let s2 := sp r1.2 148 (Int32.toNatClampNeg r1.1) ((r1.2 148 (Int32.toNatClampNeg r1.1)) + (1 : Int32)); (vp_in r1.1 61) ∧ (o12_mostAlike_c26 x1 x2 oK fu (if v3 < (s2 148 (Int32.toNatClampNeg r1.1)) then (s2 148 (Int32.toNatClampNeg r1.1)) else v3) (v4 + 1) s2))))) else (o12_mostAlike_c26 x1 x2 oK fu v3 (v4 + 1) r0.2)))
noncomputable def f12_mostAlike_c2 (x1 : Int32) (x2 : Int32) : Nat → Int32 → SI → (Int32 × SI)
  | 0, _, σ => (0, σ)
  | fu + 1, v3, σ => if (60 : Int32) < v3 then (f12_mostAlike_c26 x1 x2 (fun (y1_3 : Int32) (y1_4 : Int32) (σk1 : SI) => (y1_3, σk1)) (fu1 ((Int32.toInt (30 : Int32) + 1 - Int32.toInt (0 : Int32)).toNat)) (0 : Int32) (0 : Int32) σ) else (let s3 := sp σ 148 (Int32.toNatClampNeg v3) (0 : Int32); (f12_mostAlike_c2 x1 x2 fu (v3 + 1) s3))
noncomputable def o12_mostAlike_c2 (x1 : Int32) (x2 : Int32) : Nat → Int32 → SI → Prop
  | 0, _, _ => True
  | fu + 1, v3, σ => if (60 : Int32) < v3 then (o12_mostAlike_c26 x1 x2 (fun (y1_3 : Int32) (y1_4 : Int32) (σk1 : SI) => True) (fu1 ((Int32.toInt (30 : Int32) + 1 - Int32.toInt (0 : Int32)).toNat)) (0 : Int32) (0 : Int32) σ) else ((vp_in v3 61) ∧ (let s3 := sp σ 148 (Int32.toNatClampNeg v3) (0 : Int32); (o12_mostAlike_c2 x1 x2 fu (v3 + 1) s3)))
noncomputable def f12_mostAlike (σ : SI) (x1 : Int32) (x2 : Int32) : Int32 × SI := (f12_mostAlike_c2 x1 x2 (fu1 ((Int32.toInt (60 : Int32) + 1 - Int32.toInt (0 : Int32)).toNat)) (0 : Int32) σ)
noncomputable def o12_mostAlike (σ : SI) (x1 : Int32) (x2 : Int32) : Prop := (o12_mostAlike_c2 x1 x2 (fu1 ((Int32.toInt (60 : Int32) + 1 - Int32.toInt (0 : Int32)).toNat)) (0 : Int32) σ)
theorem w_f12_mostAlike_c26 (x1 : Int32) (x2 : Int32) {K : Int32 → Int32 → SI → (Int32 × SI)} (a : Nat) (h0 : a ≠ 132) (h1 : a ≠ 133) (h2 : a ≠ 148) (hK : ∀ (v3 : Int32) (v4 : Int32) (σ : SI), (K v3 v4 σ).2 a = σ a) : ∀ (fu : Nat) (v3 : Int32) (v4 : Int32) (σ : SI), (f12_mostAlike_c26 x1 x2 K fu v3 v4 σ).2 a = σ a := by
  intro fu
  induction fu with
  | zero => intro v3 v4 σ; exact hK v3 v4 σ
  | succ fu ih =>
    intro v3 v4 σ
    refine fp_to2 ?_
    unfold f12_mostAlike_c26
    exact (fr_ite2 (fp_of2 ((hK _ _ _))) (fr_ite2 (fp_of2 (((ih _ _ _).trans ((sp_n h2).trans ((w_f12_standsFirst _ _ _ _ a h0 h1).trans (w_f12_isGrief _ _ _ a h0 h1)))))) (fp_of2 (((ih _ _ _).trans (w_f12_isGrief _ _ _ a h0 h1))))))
theorem w_f12_mostAlike_c2 (x1 : Int32) (x2 : Int32) (a : Nat) (h0 : a ≠ 132) (h1 : a ≠ 133) (h2 : a ≠ 148) : ∀ (fu : Nat) (v3 : Int32) (σ : SI), (f12_mostAlike_c2 x1 x2 fu v3 σ).2 a = σ a := by
  intro fu
  induction fu with
  | zero => intro v3 σ; exact rfl
  | succ fu ih =>
    intro v3 σ
    refine fp_to2 ?_
    unfold f12_mostAlike_c2
    exact (fr_ite2 (fp_of2 ((w_f12_mostAlike_c26 _ _ a h0 h1 h2 (fun y1_3 y1_4 σk1 => (fp_to2 ((fr_mk21 rfl)))) _ _ _ _))) (fp_of2 (((ih _ _).trans (sp_n h2)))))
theorem w_f12_mostAlike (σ : SI) (x1 : Int32) (x2 : Int32) (a : Nat) (h0 : a ≠ 132) (h1 : a ≠ 133) (h2 : a ≠ 148) : (f12_mostAlike σ x1 x2).2 a = σ a := by
  refine fp_to2 ?_
  unfold f12_mostAlike
  exact (fp_of2 ((w_f12_mostAlike_c2 _ _ a h0 h1 h2 _ _ _)))
set_option maxHeartbeats 4000000 in
set_option maxRecDepth 100000 in
theorem c12_mostAlike_c26 {l : Launch} {p : Program} {e : Env} {s : State} {m : MethodId} {args : Array Value} {below : List Frame} {meth : Method} {c : Code} {G : GT} (X : CX p s m args meth c cX12_mostAlike RX12 6 (some .int) G) {E : Int32 × SI} (τ : SL) (x1 : Int32) (x2 : Int32) {oK : Int32 → Int32 → SI → Prop} {K : Int32 → Int32 → SI → (Int32 × SI)} (hK : ∀ (v3 : Int32) (v4 : Int32) (σ : SI) (H : Heap) (locs : List Loc) (ls : Array Slot), IX G s H locs σ τ → lv_has ls 6 [(0, .ref (G.2.1 123)), (1, .int x1), (2, .int x2), (3, .int v3), (4, .int v4)] → oK v3 v4 σ → E = K v3 v4 σ → W p l e (rmN 8) s m args below meth c H locs 0 0 (MQ below ((Qi G (Ei E.1 E.2 τ)) s.heap.size) args s 0 0 (AW G s.heap.size)) (F0 m 82 ls [])) : ∀ (fu : Nat) (v3 : Int32) (v4 : Int32) (σ : SI) (H : Heap) (locs : List Loc) (ls : Array Slot), IX G s H locs σ τ → lv_has ls 6 [(0, .ref (G.2.1 123)), (1, .int x1), (2, .int x2), (3, .int v3), (4, .int v4)] → (o12_mostAlike_c26 x1 x2 oK fu v3 v4 σ) → (Int32.toInt (30 : Int32) + 1 - Int32.toInt v4).toNat < fu → E = (f12_mostAlike_c26 x1 x2 K fu v3 v4 σ) → W p l e (rmN 8) s m args below meth c H locs 0 0 (MQ below ((Qi G (Ei E.1 E.2 τ)) s.heap.size) args s 0 0 (AW G s.heap.size)) (F0 m 26 ls []) := by
  intro fu
  induction fu with
  | zero =>
    intro v3 v4 σ H locs ls I hl  ho hm hE
    exact absurd hm (Nat.not_lt_zero _)
  | succ fu ih =>
    intro v3 v4 σ H locs ls I hl  ho hm hE
    unfold o12_mostAlike_c26 at ho
    refine lv_iload X.1 X.2.1 dX12_mostAlike_26 (lv_at hl 4 rfl) ?_
    refine lv_bipush (v := 30) X.1 X.2.1 dX12_mostAlike_28 (by decide) ?_
    refine lv_icmp_gt (tgt := 82) X.1 X.2.1 dX12_mostAlike_30 (by decide) (fun c_2 => ?_) (fun c_2 => ?_)
    · skip
      have hE := ite_t hE c_2
      have ho := ite_tP ho c_2
      exact hK _ _ _ _ _ _ I (lv_sub hl [0, 1, 2, 3, 4] rfl) ho (hE.trans (rfl))
    · skip
      have hE := ite_f hE c_2
      have ho := ite_fP ho c_2
      refine lv_aload_n X.1 X.2.1 dX12_mostAlike_33 rfl (lv_at hl 0 rfl) ?_
      refine lv_iload_n X.1 X.2.1 dX12_mostAlike_34 rfl (lv_at hl 1 rfl) ?_
      refine lv_iload X.1 X.2.1 dX12_mostAlike_35 (lv_at hl 4 rfl) ?_
      have ho1 := ho.1
      have ho := ho.2
      refine r_ei I (r_runV X I pk_X12_isGrief (c12_isGrief l G _ _ _ _ ho1) lm_X12_406 (by decide) (cl_12 rfl) rfl rfl rfl hl.1 rfl (Nat.le_of_ble_eq_true rfl) dX12_mostAlike_37 ⟨Nat.le_of_ble_eq_true rfl, Nat.le_of_ble_eq_true rfl⟩ ⟨Nat.le_refl 0, Nat.le_refl 0⟩) (fun H locs I => ?_)
      refine lv_if_eq (tgt := 76) X.1 X.2.1 dX12_mostAlike_40 (by decide) (fun c_3 => ?_) (fun c_3 => ?_)
      · skip
        have hE := ite_f hE (b2i_n c_3)
        have ho := ite_fP ho (b2i_n c_3)
        refine lv_iinc (v := _ + 1) (lv' := [(4, .int _), (0, .ref _), (1, .int _), (2, .int _), (3, .int _)]) X.1 X.2.1 dX12_mostAlike_76 hl (k := 4) rfl rfl (by decide) rfl (fun ls hl => ?_)
        refine lv_goto (tgt := 26) X.1 X.2.1 dX12_mostAlike_79 (by decide) ?_
        exact ih _ _ _ _ _ _ I (lv_sub hl [1, 2, 3, 4, 0] rfl) ho (Nat.lt_of_lt_of_le (up_decE (by decide) c_2) (Nat.le_of_lt_succ hm)) (hE.trans (rfl))
      · skip
        have hE := ite_t hE (b2i_y c_3)
        have ho := ite_tP ho (b2i_y c_3)
        refine lv_aload_n X.1 X.2.1 dX12_mostAlike_43 rfl (lv_at hl 0 rfl) ?_
        refine lv_iload_n X.1 X.2.1 dX12_mostAlike_44 rfl (lv_at hl 1 rfl) ?_
        refine lv_iload X.1 X.2.1 dX12_mostAlike_45 (lv_at hl 4 rfl) ?_
        refine lv_iload_n X.1 X.2.1 dX12_mostAlike_47 rfl (lv_at hl 2 rfl) ?_
        have ho2 := ho.1
        have ho := ho.2
        refine r_ei I (r_runV X I pk_X12_standsFirst (c12_standsFirst l G _ _ _ _ _ ho2) lm_X12_403 (by decide) (cl_12 rfl) rfl rfl rfl hl.1 rfl (Nat.le_of_ble_eq_true rfl) dX12_mostAlike_48 ⟨Nat.le_of_ble_eq_true rfl, Nat.le_of_ble_eq_true rfl⟩ ⟨Nat.le_refl 0, Nat.le_refl 0⟩) (fun H locs I => ?_)
        refine lv_istore (lv' := [(5, .int _), (0, .ref _), (1, .int _), (2, .int _), (3, .int _), (4, .int _)]) X.1 X.2.1 dX12_mostAlike_51 hl (by decide) rfl (fun ls hl => ?_)
        refine lv_aload_n X.1 X.2.1 dX12_mostAlike_53 rfl (lv_at hl 1 rfl) ?_
        refine g12_44 X I (k := 123) (by decide) rfl lf_X12_89 dX12_mostAlike_54 ?_
        refine lv_iload X.1 X.2.1 dX12_mostAlike_57 (lv_at hl 0 rfl) ?_
        refine lv_dup2_11 X.1 X.2.1 dX12_mostAlike_59 rfl rfl ?_
        have ho3 := ho.1
        have ho := ho.2
        refine r_ald X I (k := 148) (n := 61) (by decide) rfl ho3 dX12_mostAlike_60 ?_
        refine lv_iconst (v := 1) X.1 X.2.1 dX12_mostAlike_61 (by decide) ?_
        refine lv_iadd X.1 X.2.1 dX12_mostAlike_62 ?_
        have ho4 := ho.1
        have ho := ho.2
        refine r_ast X I (k := 148) (n := 61) (by decide) rfl ho4 dX12_mostAlike_63 (fun H locs I => ?_)
        refine lv_iload_n X.1 X.2.1 dX12_mostAlike_64 rfl (lv_at hl 4 rfl) ?_
        refine lv_aload_n X.1 X.2.1 dX12_mostAlike_65 rfl (lv_at hl 1 rfl) ?_
        refine g12_44 X I (k := 123) (by decide) rfl lf_X12_89 dX12_mostAlike_66 ?_
        refine lv_iload X.1 X.2.1 dX12_mostAlike_69 (lv_at hl 0 rfl) ?_
        have ho5 := ho.1
        have ho := ho.2
        refine r_ald X I (k := 148) (n := 61) (by decide) rfl ho5 dX12_mostAlike_71 ?_
        refine r_mmax X hl.1 lm_X12_303 ls_J9_max_7cf53 ln_J9 lc_J9_max_7cf53 (Nat.le_of_ble_eq_true rfl) (Nat.le_of_ble_eq_true rfl) (Nat.le_refl 0) (Nat.le_refl 0) dX12_mostAlike_72 ?_
        refine lv_istore_n (lv' := [(3, .int _), (5, .int _), (0, .ref _), (1, .int _), (2, .int _), (4, .int _)]) X.1 X.2.1 dX12_mostAlike_75 rfl hl (by decide) rfl (fun ls hl => ?_)
        refine lv_iinc (v := _ + 1) (lv' := [(4, .int _), (3, .int _), (5, .int _), (0, .ref _), (1, .int _), (2, .int _)]) X.1 X.2.1 dX12_mostAlike_76 hl (k := 5) rfl rfl (by decide) rfl (fun ls hl => ?_)
        refine lv_goto (tgt := 26) X.1 X.2.1 dX12_mostAlike_79 (by decide) ?_
        exact ih _ _ _ _ _ _ I (lv_sub hl [3, 4, 5, 1, 0] rfl) ho (Nat.lt_of_lt_of_le (up_decE (by decide) c_2) (Nat.le_of_lt_succ hm)) (hE.trans (rfl))
set_option maxHeartbeats 4000000 in
set_option maxRecDepth 100000 in
theorem c12_mostAlike_c2 {l : Launch} {p : Program} {e : Env} {s : State} {m : MethodId} {args : Array Value} {below : List Frame} {meth : Method} {c : Code} {G : GT} (X : CX p s m args meth c cX12_mostAlike RX12 6 (some .int) G) {E : Int32 × SI} (τ : SL) (x1 : Int32) (x2 : Int32) : ∀ (fu : Nat) (v3 : Int32) (σ : SI) (H : Heap) (locs : List Loc) (ls : Array Slot), IX G s H locs σ τ → lv_has ls 6 [(0, .ref (G.2.1 123)), (1, .int x1), (2, .int x2), (3, .int v3)] → (o12_mostAlike_c2 x1 x2 fu v3 σ) → (Int32.toInt (60 : Int32) + 1 - Int32.toInt v3).toNat < fu → E = (f12_mostAlike_c2 x1 x2 fu v3 σ) → W p l e (rmN 8) s m args below meth c H locs 0 0 (MQ below ((Qi G (Ei E.1 E.2 τ)) s.heap.size) args s 0 0 (AW G s.heap.size)) (F0 m 2 ls []) := by
  intro fu
  induction fu with
  | zero =>
    intro v3 σ H locs ls I hl  ho hm hE
    exact absurd hm (Nat.not_lt_zero _)
  | succ fu ih =>
    intro v3 σ H locs ls I hl  ho hm hE
    unfold o12_mostAlike_c2 at ho
    refine lv_iload_n X.1 X.2.1 dX12_mostAlike_2 rfl (lv_at hl 3 rfl) ?_
    refine lv_bipush (v := 60) X.1 X.2.1 dX12_mostAlike_3 (by decide) ?_
    refine lv_icmp_gt (tgt := 21) X.1 X.2.1 dX12_mostAlike_5 (by decide) (fun c_1 => ?_) (fun c_1 => ?_)
    · skip
      have hE := ite_t hE c_1
      have ho := ite_tP ho c_1
      refine lv_iconst (v := 0) X.1 X.2.1 dX12_mostAlike_21 (by decide) ?_
      refine lv_istore_n (lv' := [(3, .int _), (0, .ref _), (1, .int _), (2, .int _)]) X.1 X.2.1 dX12_mostAlike_22 rfl hl (by decide) rfl (fun ls hl => ?_)
      refine lv_iconst (v := 0) X.1 X.2.1 dX12_mostAlike_23 (by decide) ?_
      refine lv_istore (lv' := [(4, .int _), (3, .int _), (0, .ref _), (1, .int _), (2, .int _)]) X.1 X.2.1 dX12_mostAlike_24 hl (by decide) rfl (fun ls hl => ?_)
      refine c12_mostAlike_c26 X _ _ _ (fun y1_3 y1_4 σk1 H locs ls I hl ho hE => ?_) _ _ _ _ _ _ _ I (lv_sub hl [2, 3, 4, 1, 0] rfl) ho (fu1_lt _) (hE.trans (rfl))
      refine lv_iload_n X.1 X.2.1 dX12_mostAlike_82 rfl (lv_at hl 3 rfl) ?_
      have h9 := hE
      exact r_iret X I (e_i (pr_fst h9) (pr_snd h9) rfl) dX12_mostAlike_83
    · skip
      have hE := ite_f hE c_1
      have ho := ite_fP ho c_1
      refine lv_aload_n X.1 X.2.1 dX12_mostAlike_8 rfl (lv_at hl 0 rfl) ?_
      refine g12_44 X I (k := 123) (by decide) rfl lf_X12_89 dX12_mostAlike_9 ?_
      refine lv_iload_n X.1 X.2.1 dX12_mostAlike_12 rfl (lv_at hl 3 rfl) ?_
      refine lv_iconst (v := 0) X.1 X.2.1 dX12_mostAlike_13 (by decide) ?_
      have ho6 := ho.1
      have ho := ho.2
      refine r_ast X I (k := 148) (n := 61) (by decide) rfl ho6 dX12_mostAlike_14 (fun H locs I => ?_)
      refine lv_iinc (v := _ + 1) (lv' := [(3, .int _), (0, .ref _), (1, .int _), (2, .int _)]) X.1 X.2.1 dX12_mostAlike_15 hl (k := 3) rfl rfl (by decide) rfl (fun ls hl => ?_)
      refine lv_goto (tgt := 2) X.1 X.2.1 dX12_mostAlike_18 (by decide) ?_
      exact ih _ _ _ _ _ I (lv_sub hl [1, 2, 3, 0] rfl) ho (Nat.lt_of_lt_of_le (up_decE (by decide) c_1) (Nat.le_of_lt_succ hm)) (hE.trans (rfl))
set_option maxHeartbeats 4000000 in
set_option maxRecDepth 100000 in
theorem c12_mostAlike (l : Launch) (G : GT) (σ : SI) (τ : SL) (x1 : Int32) (x2 : Int32) (ho : o12_mostAlike σ x1 x2) : Mc l yX12_mostAlike cX12_mostAlike 6 (some .int) 8 G [.ref (G.2.1 123), .int x1, .int x2] σ τ (Qi G (Ei (f12_mostAlike σ x1 x2).1 (f12_mostAlike σ x1 x2).2 τ)) := by
  refine m_start (by decide +kernel) (Nat.le_of_ble_eq_true rfl) rfl (fun p e s m args below meth c ls X I hl => ?_)
  have hl : lv_has ls 6 [(0, .ref (G.2.1 123)), (1, .int x1), (2, .int x2)] := hl
  obtain ⟨E, hE⟩ : ∃ E, E = (f12_mostAlike σ x1 x2) := ⟨_, rfl⟩
  rw [← hE]
  unfold o12_mostAlike at ho
  refine lv_iconst (v := 0) X.1 X.2.1 dX12_mostAlike_0 (by decide) ?_
  refine lv_istore_n (lv' := [(3, .int _), (0, .ref _), (1, .int _), (2, .int _)]) X.1 X.2.1 dX12_mostAlike_1 rfl hl (by decide) rfl (fun ls hl => ?_)
  exact c12_mostAlike_c2 X _ _ _ _ _ _ _ _ _ I (lv_sub hl [1, 2, 3, 0] rfl) ho (fu1_lt _) (hE.trans (rfl))
