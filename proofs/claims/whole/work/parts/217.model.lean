noncomputable def f12_carryNow (σ : SI) (x1 : Int32) : Int32 × SI := let r0 := (f12_easesNow σ x1); let r1 := (f12_endOf r0.2 x1); let s2 := sp r1.2 140 8 r1.1; let s3 := sp s2 140 (Int32.toNatClampNeg ((0 : Int32) + x1)) ((s2 140 (Int32.toNatClampNeg ((0 : Int32) + x1))) - r0.1); let s4 := sp s3 140 9 ((s3 140 9) + (f12_stepsNow r0.2 x1)); let s5 := sp s4 140 10 x1; let s6 := sp s5 140 11 ((s3 140 11) ||| ((1 : Int32) <<< (x1 &&& 31))); let s7 := sp s6 140 13 ((s3 140 13) + r0.1); (r0.1, s7)
noncomputable def o12_carryNow (σ : SI) (x1 : Int32) : Prop := (o12_easesNow σ x1) ∧ (let r0 := (f12_easesNow σ x1); (o12_stepsNow r0.2 x1) ∧ ((o12_endOf r0.2 x1) ∧ (let r1 := (f12_endOf r0.2 x1); let s2 := sp r1.2 140 8 r1.1; (vp_in ((0 : Int32) + x1) 255) ∧ ((vp_in ((0 : Int32) + x1) 255) ∧ (let s3 := sp s2 140 (Int32.toNatClampNeg ((0 : Int32) + x1)) ((s2 140 (Int32.toNatClampNeg ((0 : Int32) + x1))) - r0.1); let s4 := sp s3 140 9 ((s3 140 9) + (f12_stepsNow r0.2 x1)); let s5 := sp s4 140 10 x1; let s6 := sp s5 140 11 ((s3 140 11) ||| ((1 : Int32) <<< (x1 &&& 31))); let s7 := sp s6 140 13 ((s3 140 13) + r0.1); True)))))
theorem w_f12_carryNow (σ : SI) (x1 : Int32) (a : Nat) (h0 : a ≠ 132) (h1 : a ≠ 133) (h2 : a ≠ 140) : (f12_carryNow σ x1).2 a = σ a := by
  refine fp_to2 ?_
  unfold f12_carryNow
  exact (fr_mk21 ((sp_n h2).trans ((sp_n h2).trans ((sp_n h2).trans ((sp_n h2).trans ((sp_n h2).trans ((sp_n h2).trans ((w_f12_endOf _ _ a h0 h1).trans (w_f12_easesNow _ _ a h0 h1)))))))))
set_option maxHeartbeats 4000000 in
set_option maxRecDepth 100000 in
theorem c12_carryNow (l : Launch) (G : GT) (σ : SI) (τ : SL) (x1 : Int32) (ho : o12_carryNow σ x1) : Mc l yX12_carryNow cX12_carryNow 4 (some .int) 9 G [.ref (G.2.1 123), .int x1] σ τ (Qi G (Ei (f12_carryNow σ x1).1 (f12_carryNow σ x1).2 τ)) := by
  refine m_start (by decide +kernel) (Nat.le_of_ble_eq_true rfl) rfl (fun p e s m args below meth c ls X I hl => ?_)
  have hl : lv_has ls 4 [(0, .ref (G.2.1 123)), (1, .int x1)] := hl
  obtain ⟨E, hE⟩ : ∃ E, E = (f12_carryNow σ x1) := ⟨_, rfl⟩
  rw [← hE]
  unfold o12_carryNow at ho
  refine lv_aload_n X.1 X.2.1 dX12_carryNow_0 rfl (lv_at hl 0 rfl) ?_
  refine lv_iload_n X.1 X.2.1 dX12_carryNow_1 rfl (lv_at hl 1 rfl) ?_
  have ho1 := ho.1
  have ho := ho.2
  refine r_ei I (r_runV X I pk_X12_easesNow (c12_easesNow l G _ _ _ ho1) lm_X12_338 (by decide) (cl_12 rfl) rfl rfl rfl hl.1 rfl (Nat.le_of_ble_eq_true rfl) dX12_carryNow_2 ⟨Nat.le_of_ble_eq_true rfl, Nat.le_of_ble_eq_true rfl⟩ ⟨Nat.le_refl 0, Nat.le_refl 0⟩) (fun H locs I => ?_)
  refine lv_istore_n (lv' := [(2, .int _), (0, .ref _), (1, .int _)]) X.1 X.2.1 dX12_carryNow_5 rfl hl (by decide) rfl (fun ls hl => ?_)
  refine lv_aload_n X.1 X.2.1 dX12_carryNow_6 rfl (lv_at hl 1 rfl) ?_
  refine lv_iload_n X.1 X.2.1 dX12_carryNow_7 rfl (lv_at hl 2 rfl) ?_
  have ho2 := ho.1
  have ho := ho.2
  refine r_ei I (r_runV X I pk_X12_stepsNow (c12_stepsNow l G _ _ _ ho2) lm_X12_313 (by decide) (cl_12 rfl) rfl rfl rfl hl.1 rfl (Nat.le_of_ble_eq_true rfl) dX12_carryNow_8 ⟨Nat.le_of_ble_eq_true rfl, Nat.le_of_ble_eq_true rfl⟩ ⟨Nat.le_refl 0, Nat.le_refl 0⟩) (fun H locs I => ?_)
  refine lv_istore_n (lv' := [(3, .int _), (2, .int _), (0, .ref _), (1, .int _)]) X.1 X.2.1 dX12_carryNow_11 rfl hl (by decide) rfl (fun ls hl => ?_)
  refine lv_aload_n X.1 X.2.1 dX12_carryNow_12 rfl (lv_at hl 2 rfl) ?_
  refine g12_27 X I (k := 123) (by decide) rfl lf_X12_58 dX12_carryNow_13 ?_
  refine lv_bipush (v := 8) X.1 X.2.1 dX12_carryNow_16 (by decide) ?_
  refine lv_aload_n X.1 X.2.1 dX12_carryNow_18 rfl (lv_at hl 2 rfl) ?_
  refine lv_iload_n X.1 X.2.1 dX12_carryNow_19 rfl (lv_at hl 3 rfl) ?_
  have ho3 := ho.1
  have ho := ho.2
  refine r_ei I (r_runV X I pk_X12_endOf (c12_endOf l G _ _ _ ho3) lm_X12_335 (by decide) (cl_12 rfl) rfl rfl rfl hl.1 rfl (Nat.le_of_ble_eq_true rfl) dX12_carryNow_20 ⟨Nat.le_of_ble_eq_true rfl, Nat.le_of_ble_eq_true rfl⟩ ⟨Nat.le_refl 0, Nat.le_refl 0⟩) (fun H locs I => ?_)
  refine r_ast X I (k := 140) (n := 255) (by decide) rfl (by unfold vp_in; decide) dX12_carryNow_23 (fun H locs I => ?_)
  refine lv_aload_n X.1 X.2.1 dX12_carryNow_24 rfl (lv_at hl 2 rfl) ?_
  refine g12_27 X I (k := 123) (by decide) rfl lf_X12_58 dX12_carryNow_25 ?_
  refine lv_iconst (v := 0) X.1 X.2.1 dX12_carryNow_28 (by decide) ?_
  refine lv_iload_n X.1 X.2.1 dX12_carryNow_29 rfl (lv_at hl 3 rfl) ?_
  refine lv_iadd X.1 X.2.1 dX12_carryNow_30 ?_
  refine lv_dup2_11 X.1 X.2.1 dX12_carryNow_31 rfl rfl ?_
  have ho4 := ho.1
  have ho := ho.2
  refine r_ald X I (k := 140) (n := 255) (by decide) rfl ho4 dX12_carryNow_32 ?_
  refine lv_iload_n X.1 X.2.1 dX12_carryNow_33 rfl (lv_at hl 1 rfl) ?_
  refine lv_isub X.1 X.2.1 dX12_carryNow_34 ?_
  have ho5 := ho.1
  have ho := ho.2
  refine r_ast X I (k := 140) (n := 255) (by decide) rfl ho5 dX12_carryNow_35 (fun H locs I => ?_)
  refine lv_aload_n X.1 X.2.1 dX12_carryNow_36 rfl (lv_at hl 2 rfl) ?_
  refine g12_27 X I (k := 123) (by decide) rfl lf_X12_58 dX12_carryNow_37 ?_
  refine lv_bipush (v := 9) X.1 X.2.1 dX12_carryNow_40 (by decide) ?_
  refine lv_dup2_11 X.1 X.2.1 dX12_carryNow_42 rfl rfl ?_
  refine r_ald X I (k := 140) (n := 255) (by decide) rfl (by unfold vp_in; decide) dX12_carryNow_43 ?_
  refine lv_iload_n X.1 X.2.1 dX12_carryNow_44 rfl (lv_at hl 0 rfl) ?_
  refine lv_iadd X.1 X.2.1 dX12_carryNow_45 ?_
  refine r_ast X I (k := 140) (n := 255) (by decide) rfl (by unfold vp_in; decide) dX12_carryNow_46 (fun H locs I => ?_)
  refine lv_aload_n X.1 X.2.1 dX12_carryNow_47 rfl (lv_at hl 2 rfl) ?_
  refine g12_27 X I (k := 123) (by decide) rfl lf_X12_58 dX12_carryNow_48 ?_
  refine lv_bipush (v := 10) X.1 X.2.1 dX12_carryNow_51 (by decide) ?_
  refine lv_iload_n X.1 X.2.1 dX12_carryNow_53 rfl (lv_at hl 3 rfl) ?_
  refine r_ast X I (k := 140) (n := 255) (by decide) rfl (by unfold vp_in; decide) dX12_carryNow_54 (fun H locs I => ?_)
  refine lv_aload_n X.1 X.2.1 dX12_carryNow_55 rfl (lv_at hl 2 rfl) ?_
  refine g12_27 X I (k := 123) (by decide) rfl lf_X12_58 dX12_carryNow_56 ?_
  refine lv_bipush (v := 11) X.1 X.2.1 dX12_carryNow_59 (by decide) ?_
  refine lv_dup2_11 X.1 X.2.1 dX12_carryNow_61 rfl rfl ?_
  refine r_ald X I (k := 140) (n := 255) (by decide) rfl (by unfold vp_in; decide) dX12_carryNow_62 ?_
  refine lv_iconst (v := 1) X.1 X.2.1 dX12_carryNow_63 (by decide) ?_
  refine lv_iload_n X.1 X.2.1 dX12_carryNow_64 rfl (lv_at hl 3 rfl) ?_
  refine lv_ishl X.1 X.2.1 dX12_carryNow_65 ?_
  refine lv_ior X.1 X.2.1 dX12_carryNow_66 ?_
  refine r_ast X I (k := 140) (n := 255) (by decide) rfl (by unfold vp_in; decide) dX12_carryNow_67 (fun H locs I => ?_)
  refine lv_aload_n X.1 X.2.1 dX12_carryNow_68 rfl (lv_at hl 2 rfl) ?_
  refine g12_27 X I (k := 123) (by decide) rfl lf_X12_58 dX12_carryNow_69 ?_
  refine lv_bipush (v := 13) X.1 X.2.1 dX12_carryNow_72 (by decide) ?_
  refine lv_dup2_11 X.1 X.2.1 dX12_carryNow_74 rfl rfl ?_
  refine r_ald X I (k := 140) (n := 255) (by decide) rfl (by unfold vp_in; decide) dX12_carryNow_75 ?_
  refine lv_iload_n X.1 X.2.1 dX12_carryNow_76 rfl (lv_at hl 1 rfl) ?_
  refine lv_iadd X.1 X.2.1 dX12_carryNow_77 ?_
  refine r_ast X I (k := 140) (n := 255) (by decide) rfl (by unfold vp_in; decide) dX12_carryNow_78 (fun H locs I => ?_)
  refine lv_iload_n X.1 X.2.1 dX12_carryNow_79 rfl (lv_at hl 1 rfl) ?_
  have h9 := hE
  exact r_iret X I (e_i (pr_fst h9) (pr_snd h9) rfl) dX12_carryNow_80
noncomputable def f12_carryLogged_c27 (x1 : Int32) (x2 : Int32) (x3 : Int32) : Nat → Int32 → SI → (Int32 × SI)
  | 0, _, σ => (0, σ)
  | fu + 1, v4, σ => if (240 : Int32) ≤ v4 then (let s7 := sp σ 140 14 ((σ 140 14) - (1 : Int32)); let s8 := sp s7 140 (Int32.toNatClampNeg ((15 : Int32) + ((4 : Int32) * ((σ 140 14) - (1 : Int32))))) x1; let s9 := sp s8 140 (Int32.toNatClampNeg (((15 : Int32) + ((4 : Int32) * ((σ 140 14) - (1 : Int32)))) + (1 : Int32))) x2; let s10 := sp s9 140 (Int32.toNatClampNeg (((15 : Int32) + ((4 : Int32) * ((σ 140 14) - (1 : Int32)))) + (2 : Int32))) x3; let s11 := sp s10 140 (Int32.toNatClampNeg (((15 : Int32) + ((4 : Int32) * ((σ 140 14) - (1 : Int32)))) + (3 : Int32))) (s10 140 8); let s12 := sp s11 140 14 ((s11 140 14) + (1 : Int32)); (x3, s12)) else (let s13 := sp σ 140 (Int32.toNatClampNeg (((15 : Int32) + v4) - (4 : Int32))) (σ 140 (Int32.toNatClampNeg ((15 : Int32) + v4))); (f12_carryLogged_c27 x1 x2 x3 fu (v4 + 1) s13))
noncomputable def o12_carryLogged_c27 (x1 : Int32) (x2 : Int32) (x3 : Int32) : Nat → Int32 → SI → Prop
  | 0, _, _ => True
  | fu + 1, v4, σ => if (240 : Int32) ≤ v4 then (let s7 := sp σ 140 14 ((σ 140 14) - (1 : Int32)); (vp_in ((15 : Int32) + ((4 : Int32) * ((σ 140 14) - (1 : Int32)))) 255) ∧ (let s8 := sp s7 140 (Int32.toNatClampNeg ((15 : Int32) + ((4 : Int32) * ((σ 140 14) - (1 : Int32))))) x1; (vp_in (((15 : Int32) + ((4 : Int32) * ((σ 140 14) - (1 : Int32)))) + (1 : Int32)) 255) ∧ (let s9 := sp s8 140 (Int32.toNatClampNeg (((15 : Int32) + ((4 : Int32) * ((σ 140 14) - (1 : Int32)))) + (1 : Int32))) x2; (vp_in (((15 : Int32) + ((4 : Int32) * ((σ 140 14) - (1 : Int32)))) + (2 : Int32)) 255) ∧ (let s10 := sp s9 140 (Int32.toNatClampNeg (((15 : Int32) + ((4 : Int32) * ((σ 140 14) - (1 : Int32)))) + (2 : Int32))) x3; (vp_in (((15 : Int32) + ((4 : Int32) * ((σ 140 14) - (1 : Int32)))) + (3 : Int32)) 255) ∧ (let s11 := sp s10 140 (Int32.toNatClampNeg (((15 : Int32) + ((4 : Int32) * ((σ 140 14) - (1 : Int32)))) + (3 : Int32))) (s10 140 8); let s12 := sp s11 140 14 ((s11 140 14) + (1 : Int32)); True))))) else ((vp_in ((15 : Int32) + v4) 255) ∧ ((vp_in (((15 : Int32) + v4) - (4 : Int32)) 255) ∧ (let s13 := sp σ 140 (Int32.toNatClampNeg (((15 : Int32) + v4) - (4 : Int32))) (σ 140 (Int32.toNatClampNeg ((15 : Int32) + v4))); (o12_carryLogged_c27 x1 x2 x3 fu (v4 + 1) s13))))
noncomputable def f12_carryLogged (σ : SI) (x1 : Int32) : Int32 × SI := let r0 := (f12_standsNow σ x1); let r1 := (f12_carryNow r0.2 x1); if (r1.2 140 14) = (60 : Int32) then (f12_carryLogged_c27 x1 r0.1 r1.1 (fu1 ((Int32.toInt (240 : Int32) - Int32.toInt (4 : Int32)).toNat)) (4 : Int32) r1.2) else (let s2 := sp r1.2 140 (Int32.toNatClampNeg ((15 : Int32) + ((4 : Int32) * (r1.2 140 14)))) x1; let s3 := sp s2 140 (Int32.toNatClampNeg (((15 : Int32) + ((4 : Int32) * (r1.2 140 14))) + (1 : Int32))) r0.1; let s4 := sp s3 140 (Int32.toNatClampNeg (((15 : Int32) + ((4 : Int32) * (r1.2 140 14))) + (2 : Int32))) r1.1; let s5 := sp s4 140 (Int32.toNatClampNeg (((15 : Int32) + ((4 : Int32) * (r1.2 140 14))) + (3 : Int32))) (s4 140 8); let s6 := sp s5 140 14 ((s5 140 14) + (1 : Int32)); (r1.1, s6))
noncomputable def o12_carryLogged (σ : SI) (x1 : Int32) : Prop := (o12_standsNow σ x1) ∧ (let r0 := (f12_standsNow σ x1); (o12_carryNow r0.2 x1) ∧ (let r1 := (f12_carryNow r0.2 x1); if (r1.2 140 14) = (60 : Int32) then (o12_carryLogged_c27 x1 r0.1 r1.1 (fu1 ((Int32.toInt (240 : Int32) - Int32.toInt (4 : Int32)).toNat)) (4 : Int32) r1.2) else ((vp_in ((15 : Int32) + ((4 : Int32) * (r1.2 140 14))) 255) ∧ (let s2 := sp r1.2 140 (Int32.toNatClampNeg ((15 : Int32) + ((4 : Int32) * (r1.2 140 14)))) x1; (vp_in (((15 : Int32) + ((4 : Int32) * (r1.2 140 14))) + (1 : Int32)) 255) ∧ (let s3 := sp s2 140 (Int32.toNatClampNeg (((15 : Int32) + ((4 : Int32) * (r1.2 140 14))) + (1 : Int32))) r0.1; (vp_in (((15 : Int32) + ((4 : Int32) * (r1.2 140 14))) + (2 : Int32)) 255) ∧ (let s4 := sp s3 140 (Int32.toNatClampNeg (((15 : Int32) + ((4 : Int32) * (r1.2 140 14))) + (2 : Int32))) r1.1; (vp_in (((15 : Int32) + ((4 : Int32) * (r1.2 140 14))) + (3 : Int32)) 255) ∧ (let s5 := sp s4 140 (Int32.toNatClampNeg (((15 : Int32) + ((4 : Int32) * (r1.2 140 14))) + (3 : Int32))) (s4 140 8); let s6 := sp s5 140 14 ((s5 140 14) + (1 : Int32)); True)))))))
theorem w_f12_carryLogged_c27 (x1 : Int32) (x2 : Int32) (x3 : Int32) (a : Nat) (h0 : a ≠ 132) (h1 : a ≠ 133) (h2 : a ≠ 140) : ∀ (fu : Nat) (v4 : Int32) (σ : SI), (f12_carryLogged_c27 x1 x2 x3 fu v4 σ).2 a = σ a := by
  intro fu
  induction fu with
  | zero => intro v4 σ; exact rfl
  | succ fu ih =>
    intro v4 σ
    refine fp_to2 ?_
    unfold f12_carryLogged_c27
    exact (fr_ite2 (fr_mk21 ((sp_n h2).trans ((sp_n h2).trans ((sp_n h2).trans ((sp_n h2).trans ((sp_n h2).trans (sp_n h2))))))) (fp_of2 (((ih _ _).trans (sp_n h2)))))
theorem w_f12_carryLogged (σ : SI) (x1 : Int32) (a : Nat) (h0 : a ≠ 132) (h1 : a ≠ 133) (h2 : a ≠ 140) : (f12_carryLogged σ x1).2 a = σ a := by
  refine fp_to2 ?_
  unfold f12_carryLogged
  exact (fr_ite2 (fp_of2 (((w_f12_carryLogged_c27 _ _ _ a h0 h1 h2 _ _ _).trans ((w_f12_carryNow _ _ a h0 h1 h2).trans (w_f12_standsNow _ _ a h0 h1))))) (fr_mk21 ((sp_n h2).trans ((sp_n h2).trans ((sp_n h2).trans ((sp_n h2).trans ((sp_n h2).trans ((w_f12_carryNow _ _ a h0 h1 h2).trans (w_f12_standsNow _ _ a h0 h1)))))))))
set_option maxHeartbeats 4000000 in
set_option maxRecDepth 100000 in
theorem c12_carryLogged_c27 {l : Launch} {p : Program} {e : Env} {s : State} {m : MethodId} {args : Array Value} {below : List Frame} {meth : Method} {c : Code} {G : GT} (X : CX p s m args meth c cX12_carryLogged RX12 5 (some .int) G) {E : Int32 × SI} (τ : SL) (x1 : Int32) (x2 : Int32) (x3 : Int32) : ∀ (fu : Nat) (v4 : Int32) (σ : SI) (H : Heap) (locs : List Loc) (ls : Array Slot), IX G s H locs σ τ → lv_has ls 5 [(0, .ref (G.2.1 123)), (1, .int x1), (2, .int x2), (3, .int x3), (4, .int v4)] → (o12_carryLogged_c27 x1 x2 x3 fu v4 σ) → (Int32.toInt (240 : Int32) - Int32.toInt v4).toNat < fu → E = (f12_carryLogged_c27 x1 x2 x3 fu v4 σ) → W p l e (rmN 10) s m args below meth c H locs 0 0 (MQ below ((Qi G (Ei E.1 E.2 τ)) s.heap.size) args s 0 0 (AW G s.heap.size)) (F0 m 27 ls []) := by
  intro fu
  induction fu with
  | zero =>
    intro v4 σ H locs ls I hl  ho hm hE
    exact absurd hm (Nat.not_lt_zero _)
  | succ fu ih =>
    intro v4 σ H locs ls I hl  ho hm hE
    unfold o12_carryLogged_c27 at ho
    refine lv_iload X.1 X.2.1 dX12_carryLogged_27 (lv_at hl 4 rfl) ?_
    refine lv_sipush (v := 240) X.1 X.2.1 dX12_carryLogged_29 (by decide) ?_
    refine lv_icmp_ge (tgt := 63) X.1 X.2.1 dX12_carryLogged_32 (by decide) (fun c_2 => ?_) (fun c_2 => ?_)
    · skip
      have hE := ite_t hE c_2
      have ho := ite_tP ho c_2
      refine lv_aload_n X.1 X.2.1 dX12_carryLogged_63 rfl (lv_at hl 0 rfl) ?_
      refine g12_27 X I (k := 123) (by decide) rfl lf_X12_58 dX12_carryLogged_64 ?_
      refine lv_bipush (v := 14) X.1 X.2.1 dX12_carryLogged_67 (by decide) ?_
      refine lv_dup2_11 X.1 X.2.1 dX12_carryLogged_69 rfl rfl ?_
      refine r_ald X I (k := 140) (n := 255) (by decide) rfl (by unfold vp_in; decide) dX12_carryLogged_70 ?_
      refine lv_iconst (v := 1) X.1 X.2.1 dX12_carryLogged_71 (by decide) ?_
      refine lv_isub X.1 X.2.1 dX12_carryLogged_72 ?_
      refine r_ast X I (k := 140) (n := 255) (by decide) rfl (by unfold vp_in; decide) dX12_carryLogged_73 (fun H locs I => ?_)
      refine lv_bipush (v := 15) X.1 X.2.1 dX12_carryLogged_74 (by decide) ?_
      refine lv_iconst (v := 4) X.1 X.2.1 dX12_carryLogged_76 (by decide) ?_
      refine lv_aload_n X.1 X.2.1 dX12_carryLogged_77 rfl (lv_at hl 0 rfl) ?_
      refine g12_27 X I (k := 123) (by decide) rfl lf_X12_58 dX12_carryLogged_78 ?_
      refine lv_bipush (v := 14) X.1 X.2.1 dX12_carryLogged_81 (by decide) ?_
      refine r_ald X I (k := 140) (n := 255) (by decide) rfl (by unfold vp_in; decide) dX12_carryLogged_83 ?_
      refine lv_imul X.1 X.2.1 dX12_carryLogged_84 ?_
      refine lv_iadd X.1 X.2.1 dX12_carryLogged_85 ?_
      refine lv_istore (lv' := [(4, .int _), (0, .ref _), (1, .int _), (2, .int _), (3, .int _)]) X.1 X.2.1 dX12_carryLogged_86 hl (by decide) rfl (fun ls hl => ?_)
      refine lv_aload_n X.1 X.2.1 dX12_carryLogged_88 rfl (lv_at hl 1 rfl) ?_
      refine g12_27 X I (k := 123) (by decide) rfl lf_X12_58 dX12_carryLogged_89 ?_
      refine lv_iload X.1 X.2.1 dX12_carryLogged_92 (lv_at hl 0 rfl) ?_
      refine lv_iload_n X.1 X.2.1 dX12_carryLogged_94 rfl (lv_at hl 2 rfl) ?_
      have ho7 := ho.1
      have ho := ho.2
      refine r_ast X I (k := 140) (n := 255) (by decide) rfl ho7 dX12_carryLogged_95 (fun H locs I => ?_)
      refine lv_aload_n X.1 X.2.1 dX12_carryLogged_96 rfl (lv_at hl 1 rfl) ?_
      refine g12_27 X I (k := 123) (by decide) rfl lf_X12_58 dX12_carryLogged_97 ?_
      refine lv_iload X.1 X.2.1 dX12_carryLogged_100 (lv_at hl 0 rfl) ?_
      refine lv_iconst (v := 1) X.1 X.2.1 dX12_carryLogged_102 (by decide) ?_
      refine lv_iadd X.1 X.2.1 dX12_carryLogged_103 ?_
      refine lv_iload_n X.1 X.2.1 dX12_carryLogged_104 rfl (lv_at hl 3 rfl) ?_
      have ho8 := ho.1
      have ho := ho.2
      refine r_ast X I (k := 140) (n := 255) (by decide) rfl ho8 dX12_carryLogged_105 (fun H locs I => ?_)
      refine lv_aload_n X.1 X.2.1 dX12_carryLogged_106 rfl (lv_at hl 1 rfl) ?_
      refine g12_27 X I (k := 123) (by decide) rfl lf_X12_58 dX12_carryLogged_107 ?_
      refine lv_iload X.1 X.2.1 dX12_carryLogged_110 (lv_at hl 0 rfl) ?_
      refine lv_iconst (v := 2) X.1 X.2.1 dX12_carryLogged_112 (by decide) ?_
      refine lv_iadd X.1 X.2.1 dX12_carryLogged_113 ?_
      refine lv_iload_n X.1 X.2.1 dX12_carryLogged_114 rfl (lv_at hl 4 rfl) ?_
      have ho9 := ho.1
      have ho := ho.2
      refine r_ast X I (k := 140) (n := 255) (by decide) rfl ho9 dX12_carryLogged_115 (fun H locs I => ?_)
      refine lv_aload_n X.1 X.2.1 dX12_carryLogged_116 rfl (lv_at hl 1 rfl) ?_
      refine g12_27 X I (k := 123) (by decide) rfl lf_X12_58 dX12_carryLogged_117 ?_
      refine lv_iload X.1 X.2.1 dX12_carryLogged_120 (lv_at hl 0 rfl) ?_
      refine lv_iconst (v := 3) X.1 X.2.1 dX12_carryLogged_122 (by decide) ?_
      refine lv_iadd X.1 X.2.1 dX12_carryLogged_123 ?_
      refine lv_aload_n X.1 X.2.1 dX12_carryLogged_124 rfl (lv_at hl 1 rfl) ?_
      refine g12_27 X I (k := 123) (by decide) rfl lf_X12_58 dX12_carryLogged_125 ?_
      refine lv_bipush (v := 8) X.1 X.2.1 dX12_carryLogged_128 (by decide) ?_
      refine r_ald X I (k := 140) (n := 255) (by decide) rfl (by unfold vp_in; decide) dX12_carryLogged_130 ?_
      have ho10 := ho.1
      have ho := ho.2
      refine r_ast X I (k := 140) (n := 255) (by decide) rfl ho10 dX12_carryLogged_131 (fun H locs I => ?_)
      refine lv_aload_n X.1 X.2.1 dX12_carryLogged_132 rfl (lv_at hl 1 rfl) ?_
      refine g12_27 X I (k := 123) (by decide) rfl lf_X12_58 dX12_carryLogged_133 ?_
      refine lv_bipush (v := 14) X.1 X.2.1 dX12_carryLogged_136 (by decide) ?_
      refine lv_dup2_11 X.1 X.2.1 dX12_carryLogged_138 rfl rfl ?_
      refine r_ald X I (k := 140) (n := 255) (by decide) rfl (by unfold vp_in; decide) dX12_carryLogged_139 ?_
      refine lv_iconst (v := 1) X.1 X.2.1 dX12_carryLogged_140 (by decide) ?_
      refine lv_iadd X.1 X.2.1 dX12_carryLogged_141 ?_
      refine r_ast X I (k := 140) (n := 255) (by decide) rfl (by unfold vp_in; decide) dX12_carryLogged_142 (fun H locs I => ?_)
      refine lv_iload_n X.1 X.2.1 dX12_carryLogged_143 rfl (lv_at hl 4 rfl) ?_
      have h9 := hE
      exact r_iret X I (e_i (pr_fst h9) (pr_snd h9) rfl) dX12_carryLogged_144
    · skip
      have hE := ite_f hE c_2
      have ho := ite_fP ho c_2
      refine lv_aload_n X.1 X.2.1 dX12_carryLogged_35 rfl (lv_at hl 0 rfl) ?_
      refine g12_27 X I (k := 123) (by decide) rfl lf_X12_58 dX12_carryLogged_36 ?_
      refine lv_bipush (v := 15) X.1 X.2.1 dX12_carryLogged_39 (by decide) ?_
      refine lv_iload X.1 X.2.1 dX12_carryLogged_41 (lv_at hl 4 rfl) ?_
      refine lv_iadd X.1 X.2.1 dX12_carryLogged_43 ?_
      refine lv_iconst (v := 4) X.1 X.2.1 dX12_carryLogged_44 (by decide) ?_
      refine lv_isub X.1 X.2.1 dX12_carryLogged_45 ?_
      refine lv_aload_n X.1 X.2.1 dX12_carryLogged_46 rfl (lv_at hl 0 rfl) ?_
      refine g12_27 X I (k := 123) (by decide) rfl lf_X12_58 dX12_carryLogged_47 ?_
      refine lv_bipush (v := 15) X.1 X.2.1 dX12_carryLogged_50 (by decide) ?_
      refine lv_iload X.1 X.2.1 dX12_carryLogged_52 (lv_at hl 4 rfl) ?_
      refine lv_iadd X.1 X.2.1 dX12_carryLogged_54 ?_
      have ho11 := ho.1
      have ho := ho.2
      refine r_ald X I (k := 140) (n := 255) (by decide) rfl ho11 dX12_carryLogged_55 ?_
      have ho12 := ho.1
      have ho := ho.2
      refine r_ast X I (k := 140) (n := 255) (by decide) rfl ho12 dX12_carryLogged_56 (fun H locs I => ?_)
      refine lv_iinc (v := _ + 1) (lv' := [(4, .int _), (0, .ref _), (1, .int _), (2, .int _), (3, .int _)]) X.1 X.2.1 dX12_carryLogged_57 hl (k := 4) rfl rfl (by decide) rfl (fun ls hl => ?_)
      refine lv_goto (tgt := 27) X.1 X.2.1 dX12_carryLogged_60 (by decide) ?_
      exact ih _ _ _ _ _ I (lv_sub hl [1, 2, 3, 4, 0] rfl) ho (Nat.lt_of_lt_of_le (up_dec c_2) (Nat.le_of_lt_succ hm)) (hE.trans (rfl))
set_option maxHeartbeats 4000000 in
set_option maxRecDepth 100000 in
theorem c12_carryLogged (l : Launch) (G : GT) (σ : SI) (τ : SL) (x1 : Int32) (ho : o12_carryLogged σ x1) : Mc l yX12_carryLogged cX12_carryLogged 5 (some .int) 10 G [.ref (G.2.1 123), .int x1] σ τ (Qi G (Ei (f12_carryLogged σ x1).1 (f12_carryLogged σ x1).2 τ)) := by
  refine m_start (by decide +kernel) (Nat.le_of_ble_eq_true rfl) rfl (fun p e s m args below meth c ls X I hl => ?_)
  have hl : lv_has ls 5 [(0, .ref (G.2.1 123)), (1, .int x1)] := hl
  obtain ⟨E, hE⟩ : ∃ E, E = (f12_carryLogged σ x1) := ⟨_, rfl⟩
  rw [← hE]
  unfold o12_carryLogged at ho
  refine lv_aload_n X.1 X.2.1 dX12_carryLogged_0 rfl (lv_at hl 0 rfl) ?_
  refine lv_iload_n X.1 X.2.1 dX12_carryLogged_1 rfl (lv_at hl 1 rfl) ?_
  have ho1 := ho.1
  have ho := ho.2
  refine r_ei I (r_runV X I pk_X12_standsNow (c12_standsNow l G _ _ _ ho1) lm_X12_326 (by decide) (cl_12 rfl) rfl rfl rfl hl.1 rfl (Nat.le_of_ble_eq_true rfl) dX12_carryLogged_2 ⟨Nat.le_of_ble_eq_true rfl, Nat.le_of_ble_eq_true rfl⟩ ⟨Nat.le_refl 0, Nat.le_refl 0⟩) (fun H locs I => ?_)
  refine lv_istore_n (lv' := [(2, .int _), (0, .ref _), (1, .int _)]) X.1 X.2.1 dX12_carryLogged_5 rfl hl (by decide) rfl (fun ls hl => ?_)
  refine lv_aload_n X.1 X.2.1 dX12_carryLogged_6 rfl (lv_at hl 1 rfl) ?_
  refine lv_iload_n X.1 X.2.1 dX12_carryLogged_7 rfl (lv_at hl 2 rfl) ?_
  have ho2 := ho.1
  have ho := ho.2
  refine r_ei I (r_runV X I pk_X12_carryNow (c12_carryNow l G _ _ _ ho2) lm_X12_341 (by decide) (cl_12 rfl) rfl rfl rfl hl.1 rfl (Nat.le_of_ble_eq_true rfl) dX12_carryLogged_8 ⟨Nat.le_of_ble_eq_true rfl, Nat.le_of_ble_eq_true rfl⟩ ⟨Nat.le_refl 0, Nat.le_refl 0⟩) (fun H locs I => ?_)
  refine lv_istore_n (lv' := [(3, .int _), (2, .int _), (0, .ref _), (1, .int _)]) X.1 X.2.1 dX12_carryLogged_11 rfl hl (by decide) rfl (fun ls hl => ?_)
  refine lv_aload_n X.1 X.2.1 dX12_carryLogged_12 rfl (lv_at hl 2 rfl) ?_
  refine g12_27 X I (k := 123) (by decide) rfl lf_X12_58 dX12_carryLogged_13 ?_
  refine lv_bipush (v := 14) X.1 X.2.1 dX12_carryLogged_16 (by decide) ?_
  refine r_ald X I (k := 140) (n := 255) (by decide) rfl (by unfold vp_in; decide) dX12_carryLogged_18 ?_
  refine lv_bipush (v := 60) X.1 X.2.1 dX12_carryLogged_19 (by decide) ?_
  refine lv_icmp_ne (tgt := 74) X.1 X.2.1 dX12_carryLogged_21 (by decide) (fun c_1 => ?_) (fun c_1 => ?_)
  · skip
    have hE := ite_f hE c_1
    have ho := ite_fP ho c_1
    refine lv_bipush (v := 15) X.1 X.2.1 dX12_carryLogged_74 (by decide) ?_
    refine lv_iconst (v := 4) X.1 X.2.1 dX12_carryLogged_76 (by decide) ?_
    refine lv_aload_n X.1 X.2.1 dX12_carryLogged_77 rfl (lv_at hl 2 rfl) ?_
    refine g12_27 X I (k := 123) (by decide) rfl lf_X12_58 dX12_carryLogged_78 ?_
    refine lv_bipush (v := 14) X.1 X.2.1 dX12_carryLogged_81 (by decide) ?_
    refine r_ald X I (k := 140) (n := 255) (by decide) rfl (by unfold vp_in; decide) dX12_carryLogged_83 ?_
    refine lv_imul X.1 X.2.1 dX12_carryLogged_84 ?_
    refine lv_iadd X.1 X.2.1 dX12_carryLogged_85 ?_
    refine lv_istore (lv' := [(4, .int _), (3, .int _), (2, .int _), (0, .ref _), (1, .int _)]) X.1 X.2.1 dX12_carryLogged_86 hl (by decide) rfl (fun ls hl => ?_)
    refine lv_aload_n X.1 X.2.1 dX12_carryLogged_88 rfl (lv_at hl 3 rfl) ?_
    refine g12_27 X I (k := 123) (by decide) rfl lf_X12_58 dX12_carryLogged_89 ?_
    refine lv_iload X.1 X.2.1 dX12_carryLogged_92 (lv_at hl 0 rfl) ?_
    refine lv_iload_n X.1 X.2.1 dX12_carryLogged_94 rfl (lv_at hl 4 rfl) ?_
    have ho3 := ho.1
    have ho := ho.2
    refine r_ast X I (k := 140) (n := 255) (by decide) rfl ho3 dX12_carryLogged_95 (fun H locs I => ?_)
    refine lv_aload_n X.1 X.2.1 dX12_carryLogged_96 rfl (lv_at hl 3 rfl) ?_
    refine g12_27 X I (k := 123) (by decide) rfl lf_X12_58 dX12_carryLogged_97 ?_
    refine lv_iload X.1 X.2.1 dX12_carryLogged_100 (lv_at hl 0 rfl) ?_
    refine lv_iconst (v := 1) X.1 X.2.1 dX12_carryLogged_102 (by decide) ?_
    refine lv_iadd X.1 X.2.1 dX12_carryLogged_103 ?_
    refine lv_iload_n X.1 X.2.1 dX12_carryLogged_104 rfl (lv_at hl 2 rfl) ?_
    have ho4 := ho.1
    have ho := ho.2
    refine r_ast X I (k := 140) (n := 255) (by decide) rfl ho4 dX12_carryLogged_105 (fun H locs I => ?_)
    refine lv_aload_n X.1 X.2.1 dX12_carryLogged_106 rfl (lv_at hl 3 rfl) ?_
    refine g12_27 X I (k := 123) (by decide) rfl lf_X12_58 dX12_carryLogged_107 ?_
    refine lv_iload X.1 X.2.1 dX12_carryLogged_110 (lv_at hl 0 rfl) ?_
    refine lv_iconst (v := 2) X.1 X.2.1 dX12_carryLogged_112 (by decide) ?_
    refine lv_iadd X.1 X.2.1 dX12_carryLogged_113 ?_
    refine lv_iload_n X.1 X.2.1 dX12_carryLogged_114 rfl (lv_at hl 1 rfl) ?_
    have ho5 := ho.1
    have ho := ho.2
    refine r_ast X I (k := 140) (n := 255) (by decide) rfl ho5 dX12_carryLogged_115 (fun H locs I => ?_)
    refine lv_aload_n X.1 X.2.1 dX12_carryLogged_116 rfl (lv_at hl 3 rfl) ?_
    refine g12_27 X I (k := 123) (by decide) rfl lf_X12_58 dX12_carryLogged_117 ?_
    refine lv_iload X.1 X.2.1 dX12_carryLogged_120 (lv_at hl 0 rfl) ?_
    refine lv_iconst (v := 3) X.1 X.2.1 dX12_carryLogged_122 (by decide) ?_
    refine lv_iadd X.1 X.2.1 dX12_carryLogged_123 ?_
    refine lv_aload_n X.1 X.2.1 dX12_carryLogged_124 rfl (lv_at hl 3 rfl) ?_
    refine g12_27 X I (k := 123) (by decide) rfl lf_X12_58 dX12_carryLogged_125 ?_
    refine lv_bipush (v := 8) X.1 X.2.1 dX12_carryLogged_128 (by decide) ?_
    refine r_ald X I (k := 140) (n := 255) (by decide) rfl (by unfold vp_in; decide) dX12_carryLogged_130 ?_
    have ho6 := ho.1
    have ho := ho.2
    refine r_ast X I (k := 140) (n := 255) (by decide) rfl ho6 dX12_carryLogged_131 (fun H locs I => ?_)
    refine lv_aload_n X.1 X.2.1 dX12_carryLogged_132 rfl (lv_at hl 3 rfl) ?_
    refine g12_27 X I (k := 123) (by decide) rfl lf_X12_58 dX12_carryLogged_133 ?_
    refine lv_bipush (v := 14) X.1 X.2.1 dX12_carryLogged_136 (by decide) ?_
    refine lv_dup2_11 X.1 X.2.1 dX12_carryLogged_138 rfl rfl ?_
    refine r_ald X I (k := 140) (n := 255) (by decide) rfl (by unfold vp_in; decide) dX12_carryLogged_139 ?_
    refine lv_iconst (v := 1) X.1 X.2.1 dX12_carryLogged_140 (by decide) ?_
    refine lv_iadd X.1 X.2.1 dX12_carryLogged_141 ?_
    refine r_ast X I (k := 140) (n := 255) (by decide) rfl (by unfold vp_in; decide) dX12_carryLogged_142 (fun H locs I => ?_)
    refine lv_iload_n X.1 X.2.1 dX12_carryLogged_143 rfl (lv_at hl 1 rfl) ?_
    have h9 := hE
    exact r_iret X I (e_i (pr_fst h9) (pr_snd h9) rfl) dX12_carryLogged_144
  · skip
    have hE := ite_t hE c_1
    have ho := ite_tP ho c_1
    refine lv_iconst (v := 4) X.1 X.2.1 dX12_carryLogged_24 (by decide) ?_
    refine lv_istore (lv' := [(4, .int _), (3, .int _), (2, .int _), (0, .ref _), (1, .int _)]) X.1 X.2.1 dX12_carryLogged_25 hl (by decide) rfl (fun ls hl => ?_)
    exact c12_carryLogged_c27 X _ _ _ _ _ _ _ _ _ _ I (lv_sub hl [3, 4, 2, 1, 0] rfl) ho (fu1_lt _) (hE.trans (rfl))
