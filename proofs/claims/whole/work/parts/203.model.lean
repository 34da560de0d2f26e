noncomputable def f12_worthOf_c6 (x1 : Int32) : Nat → Int32 → SI → (Int32 × SI)
  | 0, _, σ => (0, σ)
  | fu + 1, v2, σ => if (((140 : Int32) * x1) + (σ 128 (Int32.toNatClampNeg x1))) ≤ v2 then ((0 : Int32), σ) else (if (σ 129 (Int32.toNatClampNeg v2)) = (σ 130 (Int32.toNatClampNeg v2)) then (let r0 := (f12_workOut σ x1 (σ 130 (Int32.toNatClampNeg v2)) (σ 131 (Int32.toNatClampNeg v2))); r0) else (let r1 := (f12_workOut σ x1 (σ 129 (Int32.toNatClampNeg v2)) (σ 130 (Int32.toNatClampNeg v2))); if r1.1 = (0 : Int32) then (f12_worthOf_c6 x1 fu (v2 + 1) r1.2) else (let r2 := (f12_workOut r1.2 x1 (r1.2 130 (Int32.toNatClampNeg v2)) (r1.2 131 (Int32.toNatClampNeg v2))); r2)))
noncomputable def o12_worthOf_c6 (x1 : Int32) : Nat → Int32 → SI → Prop
  | 0, _, _ => True
  | fu + 1, v2, σ => (vp_in x1 5) ∧ (if (((140 : Int32) * x1) + (σ 128 (Int32.toNatClampNeg x1))) ≤ v2 then True else ((vp_in v2 700) ∧ ((vp_in v2 700) ∧ (if (σ 129 (Int32.toNatClampNeg v2)) = (σ 130 (Int32.toNatClampNeg v2)) then ((vp_in v2 700) ∧ ((vp_in v2 700) ∧ ((o12_workOut σ x1 (σ 130 (Int32.toNatClampNeg v2)) (σ 131 (Int32.toNatClampNeg v2))) ∧ (let r0 := (f12_workOut σ x1 (σ 130 (Int32.toNatClampNeg v2)) (σ 131 (Int32.toNatClampNeg v2))); True)))) else ((vp_in v2 700) ∧ ((vp_in v2 700) ∧ ((o12_workOut σ x1 (σ 129 (Int32.toNatClampNeg v2)) (σ 130 (Int32.toNatClampNeg v2))) ∧ (let r1 := (f12_workOut σ x1 (σ 129 (Int32.toNatClampNeg v2)) (σ 130 (Int32.toNatClampNeg v2))); if r1.1 = (0 : Int32) then (o12_worthOf_c6 x1 fu (v2 + 1) r1.2) else ((vp_in v2 700) ∧ ((vp_in v2 700) ∧ ((o12_workOut r1.2 x1 (r1.2 130 (Int32.toNatClampNeg v2)) (r1.2 131 (Int32.toNatClampNeg v2))) ∧ (let r2 := (f12_workOut r1.2 x1 (r1.2 130 (Int32.toNatClampNeg v2)) (r1.2 131 (Int32.toNatClampNeg v2))); True))))))))))))
noncomputable def f12_worthOf (σ : SI) (x1 : Int32) : Int32 × SI := (f12_worthOf_c6 x1 (fu1 ((Int32.toInt (((140 : Int32) * x1) + (σ 128 (Int32.toNatClampNeg x1))) - Int32.toInt ((140 : Int32) * x1)).toNat)) ((140 : Int32) * x1) σ)
noncomputable def o12_worthOf (σ : SI) (x1 : Int32) : Prop := (o12_worthOf_c6 x1 (fu1 ((Int32.toInt (((140 : Int32) * x1) + (σ 128 (Int32.toNatClampNeg x1))) - Int32.toInt ((140 : Int32) * x1)).toNat)) ((140 : Int32) * x1) σ)
theorem w_f12_worthOf_c6 (x1 : Int32) (a : Nat) (h0 : a ≠ 133) : ∀ (fu : Nat) (v2 : Int32) (σ : SI), (f12_worthOf_c6 x1 fu v2 σ).2 a = σ a := by
  intro fu
  induction fu with
  | zero => intro v2 σ; exact rfl
  | succ fu ih =>
    intro v2 σ
    refine fp_to2 ?_
    unfold f12_worthOf_c6
    exact (fr_ite2 (fr_mk21 rfl) (fr_ite2 (w_f12_workOut _ _ _ _ a h0) (fr_ite2 (fp_of2 (((ih _ _).trans (w_f12_workOut _ _ _ _ a h0)))) ((w_f12_workOut _ _ _ _ a h0).trans (w_f12_workOut _ _ _ _ a h0)))))
theorem w_f12_worthOf (σ : SI) (x1 : Int32) (a : Nat) (h0 : a ≠ 133) : (f12_worthOf σ x1).2 a = σ a := by
  refine fp_to2 ?_
  unfold f12_worthOf
  exact (fp_of2 ((w_f12_worthOf_c6 _ a h0 _ _ _)))
set_option maxHeartbeats 4000000 in
set_option maxRecDepth 100000 in
theorem c12_worthOf_c6 {l : Launch} {p : Program} {e : Env} {s : State} {m : MethodId} {args : Array Value} {below : List Frame} {meth : Method} {c : Code} {G : GT} (X : CX p s m args meth c cX12_worthOf RX12 3 (some .int) G) {E : Int32 × SI} (τ : SL) (x1 : Int32) : ∀ (fu : Nat) (v2 : Int32) (σ : SI) (H : Heap) (locs : List Loc) (ls : Array Slot), IX G s H locs σ τ → lv_has ls 3 [(0, .ref (G.2.1 123)), (1, .int x1), (2, .int v2)] → (o12_worthOf_c6 x1 fu v2 σ) → (Int32.toInt (((140 : Int32) * x1) + (σ 128 (Int32.toNatClampNeg x1))) - Int32.toInt v2).toNat < fu → E = (f12_worthOf_c6 x1 fu v2 σ) → W p l e (rmN 4) s m args below meth c H locs 0 0 (MQ below ((Qi G (Ei E.1 E.2 τ)) s.heap.size) args s 0 0 (AW G s.heap.size)) (F0 m 6 ls []) := by
  intro fu
  induction fu with
  | zero =>
    intro v2 σ H locs ls I hl  ho hm hE
    exact absurd hm (Nat.not_lt_zero _)
  | succ fu ih =>
    intro v2 σ H locs ls I hl  ho hm hE
    unfold o12_worthOf_c6 at ho
    refine lv_iload_n X.1 X.2.1 dX12_worthOf_6 rfl (lv_at hl 2 rfl) ?_
    refine lv_sipush (v := 140) X.1 X.2.1 dX12_worthOf_7 (by decide) ?_
    refine lv_iload_n X.1 X.2.1 dX12_worthOf_10 rfl (lv_at hl 1 rfl) ?_
    refine lv_imul X.1 X.2.1 dX12_worthOf_11 ?_
    refine lv_aload_n X.1 X.2.1 dX12_worthOf_12 rfl (lv_at hl 0 rfl) ?_
    refine g12_9 X I (k := 123) (by decide) rfl lf_X12_22 dX12_worthOf_13 ?_
    refine lv_iload_n X.1 X.2.1 dX12_worthOf_16 rfl (lv_at hl 1 rfl) ?_
    have ho1 := ho.1
    have ho := ho.2
    refine r_ald X I (k := 128) (n := 5) (by decide) rfl ho1 dX12_worthOf_17 ?_
    refine lv_iadd X.1 X.2.1 dX12_worthOf_18 ?_
    refine lv_icmp_ge (tgt := 81) X.1 X.2.1 dX12_worthOf_19 (by decide) (fun c_1 => ?_) (fun c_1 => ?_)
    · skip
      have hE := ite_t hE c_1
      have ho := ite_tP ho c_1
      refine lv_iconst (v := 0) X.1 X.2.1 dX12_worthOf_81 (by decide) ?_
      have h9 := hE
      exact r_iret X I (e_i (pr_fst h9) (pr_snd h9) rfl) dX12_worthOf_82
    · skip
      have hE := ite_f hE c_1
      have ho := ite_fP ho c_1
      refine lv_aload_n X.1 X.2.1 dX12_worthOf_22 rfl (lv_at hl 0 rfl) ?_
      refine g12_10 X I (k := 123) (by decide) rfl lf_X12_25 dX12_worthOf_23 ?_
      refine lv_iload_n X.1 X.2.1 dX12_worthOf_26 rfl (lv_at hl 2 rfl) ?_
      have ho2 := ho.1
      have ho := ho.2
      refine r_ald X I (k := 129) (n := 700) (by decide) rfl ho2 dX12_worthOf_27 ?_
      refine lv_aload_n X.1 X.2.1 dX12_worthOf_28 rfl (lv_at hl 0 rfl) ?_
      refine g12_11 X I (k := 123) (by decide) rfl lf_X12_28 dX12_worthOf_29 ?_
      refine lv_iload_n X.1 X.2.1 dX12_worthOf_32 rfl (lv_at hl 2 rfl) ?_
      have ho3 := ho.1
      have ho := ho.2
      refine r_ald X I (k := 130) (n := 700) (by decide) rfl ho3 dX12_worthOf_33 ?_
      refine lv_icmp_eq (tgt := 57) X.1 X.2.1 dX12_worthOf_34 (by decide) (fun c_2 => ?_) (fun c_2 => ?_)
      · skip
        have hE := ite_t hE c_2
        have ho := ite_tP ho c_2
        refine lv_aload_n X.1 X.2.1 dX12_worthOf_57 rfl (lv_at hl 0 rfl) ?_
        refine lv_iload_n X.1 X.2.1 dX12_worthOf_58 rfl (lv_at hl 1 rfl) ?_
        refine lv_aload_n X.1 X.2.1 dX12_worthOf_59 rfl (lv_at hl 0 rfl) ?_
        refine g12_11 X I (k := 123) (by decide) rfl lf_X12_28 dX12_worthOf_60 ?_
        refine lv_iload_n X.1 X.2.1 dX12_worthOf_63 rfl (lv_at hl 2 rfl) ?_
        have ho4 := ho.1
        have ho := ho.2
        refine r_ald X I (k := 130) (n := 700) (by decide) rfl ho4 dX12_worthOf_64 ?_
        refine lv_aload_n X.1 X.2.1 dX12_worthOf_65 rfl (lv_at hl 0 rfl) ?_
        refine g12_12 X I (k := 123) (by decide) rfl lf_X12_31 dX12_worthOf_66 ?_
        refine lv_iload_n X.1 X.2.1 dX12_worthOf_69 rfl (lv_at hl 2 rfl) ?_
        have ho5 := ho.1
        have ho := ho.2
        refine r_ald X I (k := 131) (n := 700) (by decide) rfl ho5 dX12_worthOf_70 ?_
        have ho6 := ho.1
        have ho := ho.2
        refine r_ei I (r_runV X I pk_X12_workOut (c12_workOut l G _ _ _ _ _ ho6) lm_X12_216 (by decide) (cl_12 rfl) rfl rfl rfl hl.1 rfl (Nat.le_of_ble_eq_true rfl) dX12_worthOf_71 ⟨Nat.le_of_ble_eq_true rfl, Nat.le_of_ble_eq_true rfl⟩ ⟨Nat.le_refl 0, Nat.le_refl 0⟩) (fun H locs I => ?_)
        have h9 := hE
        exact r_iret X I (e_i (congrArg Prod.fst h9).symm (congrArg Prod.snd h9).symm rfl) dX12_worthOf_74
      · skip
        have hE := ite_f hE c_2
        have ho := ite_fP ho c_2
        refine lv_aload_n X.1 X.2.1 dX12_worthOf_37 rfl (lv_at hl 0 rfl) ?_
        refine lv_iload_n X.1 X.2.1 dX12_worthOf_38 rfl (lv_at hl 1 rfl) ?_
        refine lv_aload_n X.1 X.2.1 dX12_worthOf_39 rfl (lv_at hl 0 rfl) ?_
        refine g12_10 X I (k := 123) (by decide) rfl lf_X12_25 dX12_worthOf_40 ?_
        refine lv_iload_n X.1 X.2.1 dX12_worthOf_43 rfl (lv_at hl 2 rfl) ?_
        have ho7 := ho.1
        have ho := ho.2
        refine r_ald X I (k := 129) (n := 700) (by decide) rfl ho7 dX12_worthOf_44 ?_
        refine lv_aload_n X.1 X.2.1 dX12_worthOf_45 rfl (lv_at hl 0 rfl) ?_
        refine g12_11 X I (k := 123) (by decide) rfl lf_X12_28 dX12_worthOf_46 ?_
        refine lv_iload_n X.1 X.2.1 dX12_worthOf_49 rfl (lv_at hl 2 rfl) ?_
        have ho8 := ho.1
        have ho := ho.2
        refine r_ald X I (k := 130) (n := 700) (by decide) rfl ho8 dX12_worthOf_50 ?_
        have ho9 := ho.1
        have ho := ho.2
        refine r_ei I (r_runV X I pk_X12_workOut (c12_workOut l G _ _ _ _ _ ho9) lm_X12_216 (by decide) (cl_12 rfl) rfl rfl rfl hl.1 rfl (Nat.le_of_ble_eq_true rfl) dX12_worthOf_51 ⟨Nat.le_of_ble_eq_true rfl, Nat.le_of_ble_eq_true rfl⟩ ⟨Nat.le_refl 0, Nat.le_refl 0⟩) (fun H locs I => ?_)
        refine lv_if_eq (tgt := 75) X.1 X.2.1 dX12_worthOf_54 (by decide) (fun c_3 => ?_) (fun c_3 => ?_)
        · skip
          have hE := ite_t hE c_3
          have ho := ite_tP ho c_3
          refine lv_iinc (v := _ + 1) (lv' := [(2, .int _), (0, .ref _), (1, .int _)]) X.1 X.2.1 dX12_worthOf_75 hl (k := 2) rfl rfl (by decide) rfl (fun ls hl => ?_)
          refine lv_goto (tgt := 6) X.1 X.2.1 dX12_worthOf_78 (by decide) ?_
          exact ih _ _ _ _ _ I (lv_sub hl [1, 2, 0] rfl) ho (Nat.lt_of_lt_of_le (dec_c (by first | with_reducible rfl | simp [w_f12_workOut, sp_n]) (up_dec c_1)) (Nat.le_of_lt_succ hm)) (hE.trans (rfl))
        · skip
          have hE := ite_f hE c_3
          have ho := ite_fP ho c_3
          refine lv_aload_n X.1 X.2.1 dX12_worthOf_57 rfl (lv_at hl 0 rfl) ?_
          refine lv_iload_n X.1 X.2.1 dX12_worthOf_58 rfl (lv_at hl 1 rfl) ?_
          refine lv_aload_n X.1 X.2.1 dX12_worthOf_59 rfl (lv_at hl 0 rfl) ?_
          refine g12_11 X I (k := 123) (by decide) rfl lf_X12_28 dX12_worthOf_60 ?_
          refine lv_iload_n X.1 X.2.1 dX12_worthOf_63 rfl (lv_at hl 2 rfl) ?_
          have ho10 := ho.1
          have ho := ho.2
          refine r_ald X I (k := 130) (n := 700) (by decide) rfl ho10 dX12_worthOf_64 ?_
          refine lv_aload_n X.1 X.2.1 dX12_worthOf_65 rfl (lv_at hl 0 rfl) ?_
          refine g12_12 X I (k := 123) (by decide) rfl lf_X12_31 dX12_worthOf_66 ?_
          refine lv_iload_n X.1 X.2.1 dX12_worthOf_69 rfl (lv_at hl 2 rfl) ?_
          have ho11 := ho.1
          have ho := ho.2
          refine r_ald X I (k := 131) (n := 700) (by decide) rfl ho11 dX12_worthOf_70 ?_
          have ho12 := ho.1
          have ho := ho.2
          refine r_ei I (r_runV X I pk_X12_workOut (c12_workOut l G _ _ _ _ _ ho12) lm_X12_216 (by decide) (cl_12 rfl) rfl rfl rfl hl.1 rfl (Nat.le_of_ble_eq_true rfl) dX12_worthOf_71 ⟨Nat.le_of_ble_eq_true rfl, Nat.le_of_ble_eq_true rfl⟩ ⟨Nat.le_refl 0, Nat.le_refl 0⟩) (fun H locs I => ?_)
          have h9 := hE
          exact r_iret X I (e_i (congrArg Prod.fst h9).symm (congrArg Prod.snd h9).symm rfl) dX12_worthOf_74
set_option maxHeartbeats 4000000 in
set_option maxRecDepth 100000 in
theorem c12_worthOf (l : Launch) (G : GT) (σ : SI) (τ : SL) (x1 : Int32) (ho : o12_worthOf σ x1) : Mc l yX12_worthOf cX12_worthOf 3 (some .int) 4 G [.ref (G.2.1 123), .int x1] σ τ (Qi G (Ei (f12_worthOf σ x1).1 (f12_worthOf σ x1).2 τ)) := by
  refine m_start (by decide +kernel) (Nat.le_of_ble_eq_true rfl) rfl (fun p e s m args below meth c ls X I hl => ?_)
  have hl : lv_has ls 3 [(0, .ref (G.2.1 123)), (1, .int x1)] := hl
  obtain ⟨E, hE⟩ : ∃ E, E = (f12_worthOf σ x1) := ⟨_, rfl⟩
  rw [← hE]
  unfold o12_worthOf at ho
  refine lv_sipush (v := 140) X.1 X.2.1 dX12_worthOf_0 (by decide) ?_
  refine lv_iload_n X.1 X.2.1 dX12_worthOf_3 rfl (lv_at hl 1 rfl) ?_
  refine lv_imul X.1 X.2.1 dX12_worthOf_4 ?_
  refine lv_istore_n (lv' := [(2, .int _), (0, .ref _), (1, .int _)]) X.1 X.2.1 dX12_worthOf_5 rfl hl (by decide) rfl (fun ls hl => ?_)
  exact c12_worthOf_c6 X _ _ _ _ _ _ _ _ I (lv_sub hl [1, 2, 0] rfl) ho (fu1_lt _) (hE.trans (rfl))
noncomputable def f12_itemOf (x0 : Int32) (x1 : Int32) : Int32 := if x0 = 104 then (if x1 = (120 : Int32) then (0 : Int32) else (if x1 = (121 : Int32) then (1 : Int32) else (if x1 = (103 : Int32) then (2 : Int32) else (if x1 = (113 : Int32) then (3 : Int32) else (-1 : Int32))))) else (if x0 = 115 then (if x1 = (116 : Int32) then (0 : Int32) else (if x1 = (99 : Int32) then (1 : Int32) else (if x1 = (101 : Int32) then (2 : Int32) else (-1 : Int32)))) else (if x1 = (115 : Int32) then (0 : Int32) else (-1 : Int32)))
set_option maxHeartbeats 4000000 in
set_option maxRecDepth 100000 in
theorem c12_itemOf (l : Launch) (G : GT) (σ : SI) (τ : SL) (x0 : Int32) (x1 : Int32) : Mc l yX12_itemOf cX12_itemOf 2 (some .int) 0 G [.int x0, .int x1] σ τ (Qi G (Ei (f12_itemOf x0 x1) σ τ)) := by
  refine m_start (by decide +kernel) (Nat.le_of_ble_eq_true rfl) rfl (fun p e s m args below meth c ls X I hl => ?_)
  have hl : lv_has ls 2 [(0, .int x0), (1, .int x1)] := hl
  obtain ⟨E, hE⟩ : ∃ E, E = (f12_itemOf x0 x1) := ⟨_, rfl⟩
  rw [← hE]
  refine lv_iload_n X.1 X.2.1 dX12_itemOf_0 rfl (lv_at hl 0 rfl) ?_
  rcases Classical.em (x0 = 104) with c_1 | c_1
  · skip
    have hE := ite_t hE c_1
    refine lv_lookup (off := 59) (tgt := 60) X.1 X.2.1 dX12_itemOf_1 (by decide) (by rw [c_1]; decide) (by decide) ?_
    refine lv_iload_n X.1 X.2.1 dX12_itemOf_60 rfl (lv_at hl 1 rfl) ?_
    refine lv_bipush (v := 120) X.1 X.2.1 dX12_itemOf_61 (by decide) ?_
    refine lv_icmp_ne (tgt := 70) X.1 X.2.1 dX12_itemOf_63 (by decide) (fun c_2 => ?_) (fun c_2 => ?_)
    · skip
      have hE := ite_f hE c_2
      refine lv_iload_n X.1 X.2.1 dX12_itemOf_70 rfl (lv_at hl 1 rfl) ?_
      refine lv_bipush (v := 121) X.1 X.2.1 dX12_itemOf_71 (by decide) ?_
      refine lv_icmp_ne (tgt := 80) X.1 X.2.1 dX12_itemOf_73 (by decide) (fun c_3 => ?_) (fun c_3 => ?_)
      · skip
        have hE := ite_f hE c_3
        refine lv_iload_n X.1 X.2.1 dX12_itemOf_80 rfl (lv_at hl 1 rfl) ?_
        refine lv_bipush (v := 103) X.1 X.2.1 dX12_itemOf_81 (by decide) ?_
        refine lv_icmp_ne (tgt := 90) X.1 X.2.1 dX12_itemOf_83 (by decide) (fun c_4 => ?_) (fun c_4 => ?_)
        · skip
          have hE := ite_f hE c_4
          refine lv_iload_n X.1 X.2.1 dX12_itemOf_90 rfl (lv_at hl 1 rfl) ?_
          refine lv_bipush (v := 113) X.1 X.2.1 dX12_itemOf_91 (by decide) ?_
          refine lv_icmp_ne (tgt := 100) X.1 X.2.1 dX12_itemOf_93 (by decide) (fun c_5 => ?_) (fun c_5 => ?_)
          · skip
            have hE := ite_f hE c_5
            refine lv_iconst (v := (-1)) X.1 X.2.1 dX12_itemOf_100 (by decide) ?_
            have h9 := hE
            exact r_iret X I (e_i h9.symm rfl rfl) dX12_itemOf_101
          · skip
            have hE := ite_t hE c_5
            refine lv_iconst (v := 3) X.1 X.2.1 dX12_itemOf_96 (by decide) ?_
            refine lv_goto (tgt := 101) X.1 X.2.1 dX12_itemOf_97 (by decide) ?_
            have h9 := hE
            exact r_iret X I (e_i h9.symm rfl rfl) dX12_itemOf_101
        · skip
          have hE := ite_t hE c_4
          refine lv_iconst (v := 2) X.1 X.2.1 dX12_itemOf_86 (by decide) ?_
          refine lv_goto (tgt := 101) X.1 X.2.1 dX12_itemOf_87 (by decide) ?_
          have h9 := hE
          exact r_iret X I (e_i h9.symm rfl rfl) dX12_itemOf_101
      · skip
        have hE := ite_t hE c_3
        refine lv_iconst (v := 1) X.1 X.2.1 dX12_itemOf_76 (by decide) ?_
        refine lv_goto (tgt := 101) X.1 X.2.1 dX12_itemOf_77 (by decide) ?_
        have h9 := hE
        exact r_iret X I (e_i h9.symm rfl rfl) dX12_itemOf_101
    · skip
      have hE := ite_t hE c_2
      refine lv_iconst (v := 0) X.1 X.2.1 dX12_itemOf_66 (by decide) ?_
      refine lv_goto (tgt := 101) X.1 X.2.1 dX12_itemOf_67 (by decide) ?_
      have h9 := hE
      exact r_iret X I (e_i h9.symm rfl rfl) dX12_itemOf_101
  have hE := ite_f hE c_1
  rcases Classical.em (x0 = 115) with c_6 | c_6
  · skip
    have hE := ite_t hE c_6
    refine lv_lookup (off := 27) (tgt := 28) X.1 X.2.1 dX12_itemOf_1 (by decide) (by rw [c_6]; decide) (by decide) ?_
    refine lv_iload_n X.1 X.2.1 dX12_itemOf_28 rfl (lv_at hl 1 rfl) ?_
    refine lv_bipush (v := 116) X.1 X.2.1 dX12_itemOf_29 (by decide) ?_
    refine lv_icmp_ne (tgt := 38) X.1 X.2.1 dX12_itemOf_31 (by decide) (fun c_7 => ?_) (fun c_7 => ?_)
    · skip
      have hE := ite_f hE c_7
      refine lv_iload_n X.1 X.2.1 dX12_itemOf_38 rfl (lv_at hl 1 rfl) ?_
      refine lv_bipush (v := 99) X.1 X.2.1 dX12_itemOf_39 (by decide) ?_
      refine lv_icmp_ne (tgt := 48) X.1 X.2.1 dX12_itemOf_41 (by decide) (fun c_8 => ?_) (fun c_8 => ?_)
      · skip
        have hE := ite_f hE c_8
        refine lv_iload_n X.1 X.2.1 dX12_itemOf_48 rfl (lv_at hl 1 rfl) ?_
        refine lv_bipush (v := 101) X.1 X.2.1 dX12_itemOf_49 (by decide) ?_
        refine lv_icmp_ne (tgt := 58) X.1 X.2.1 dX12_itemOf_51 (by decide) (fun c_9 => ?_) (fun c_9 => ?_)
        · skip
          have hE := ite_f hE c_9
          refine lv_iconst (v := (-1)) X.1 X.2.1 dX12_itemOf_58 (by decide) ?_
          have h9 := hE
          exact r_iret X I (e_i h9.symm rfl rfl) dX12_itemOf_59
        · skip
          have hE := ite_t hE c_9
          refine lv_iconst (v := 2) X.1 X.2.1 dX12_itemOf_54 (by decide) ?_
          refine lv_goto (tgt := 59) X.1 X.2.1 dX12_itemOf_55 (by decide) ?_
          have h9 := hE
          exact r_iret X I (e_i h9.symm rfl rfl) dX12_itemOf_59
      · skip
        have hE := ite_t hE c_8
        refine lv_iconst (v := 1) X.1 X.2.1 dX12_itemOf_44 (by decide) ?_
        refine lv_goto (tgt := 59) X.1 X.2.1 dX12_itemOf_45 (by decide) ?_
        have h9 := hE
        exact r_iret X I (e_i h9.symm rfl rfl) dX12_itemOf_59
    · skip
      have hE := ite_t hE c_7
      refine lv_iconst (v := 0) X.1 X.2.1 dX12_itemOf_34 (by decide) ?_
      refine lv_goto (tgt := 59) X.1 X.2.1 dX12_itemOf_35 (by decide) ?_
      have h9 := hE
      exact r_iret X I (e_i h9.symm rfl rfl) dX12_itemOf_59
  have hE := ite_f hE c_6
  refine lv_lookup (off := 101) (tgt := 102) X.1 X.2.1 dX12_itemOf_1 (by decide) (sw_def _ _ _ (by decide) (fun q hq => by
    simp only [List.mem_cons, List.not_mem_nil, or_false] at hq
    rcases hq with rfl | rfl
    · exact fun h9 => c_1 (sw_eq h9)
    · exact fun h9 => c_6 (sw_eq h9))) (by decide) ?_
  refine lv_iload_n X.1 X.2.1 dX12_itemOf_102 rfl (lv_at hl 1 rfl) ?_
  refine lv_bipush (v := 115) X.1 X.2.1 dX12_itemOf_103 (by decide) ?_
  refine lv_icmp_ne (tgt := 112) X.1 X.2.1 dX12_itemOf_105 (by decide) (fun c_10 => ?_) (fun c_10 => ?_)
  · skip
    have hE := ite_f hE c_10
    refine lv_iconst (v := (-1)) X.1 X.2.1 dX12_itemOf_112 (by decide) ?_
    have h9 := hE
    exact r_iret X I (e_i h9.symm rfl rfl) dX12_itemOf_113
  · skip
    have hE := ite_t hE c_10
    refine lv_iconst (v := 0) X.1 X.2.1 dX12_itemOf_108 (by decide) ?_
    refine lv_goto (tgt := 113) X.1 X.2.1 dX12_itemOf_109 (by decide) ?_
    have h9 := hE
    exact r_iret X I (e_i h9.symm rfl rfl) dX12_itemOf_113
noncomputable def f12_lowest (x0 : Int32) (x1 : Int32) : Int32 := if x0 = (115 : Int32) then (if x1 = (0 : Int32) then (1 : Int32) else (if x0 = (98 : Int32) then (1 : Int32) else (0 : Int32))) else (if x0 = (98 : Int32) then (1 : Int32) else (0 : Int32))
set_option maxHeartbeats 4000000 in
set_option maxRecDepth 100000 in
theorem c12_lowest (l : Launch) (G : GT) (σ : SI) (τ : SL) (x0 : Int32) (x1 : Int32) : Mc l yX12_lowest cX12_lowest 2 (some .int) 0 G [.int x0, .int x1] σ τ (Qi G (Ei (f12_lowest x0 x1) σ τ)) := by
  refine m_start (by decide +kernel) (Nat.le_of_ble_eq_true rfl) rfl (fun p e s m args below meth c ls X I hl => ?_)
  have hl : lv_has ls 2 [(0, .int x0), (1, .int x1)] := hl
  obtain ⟨E, hE⟩ : ∃ E, E = (f12_lowest x0 x1) := ⟨_, rfl⟩
  rw [← hE]
  refine lv_iload_n X.1 X.2.1 dX12_lowest_0 rfl (lv_at hl 0 rfl) ?_
  refine lv_bipush (v := 115) X.1 X.2.1 dX12_lowest_1 (by decide) ?_
  refine lv_icmp_ne (tgt := 10) X.1 X.2.1 dX12_lowest_3 (by decide) (fun c_1 => ?_) (fun c_1 => ?_)
  · skip
    have hE := ite_f hE c_1
    refine lv_iload_n X.1 X.2.1 dX12_lowest_10 rfl (lv_at hl 0 rfl) ?_
    refine lv_bipush (v := 98) X.1 X.2.1 dX12_lowest_11 (by decide) ?_
    refine lv_icmp_ne (tgt := 20) X.1 X.2.1 dX12_lowest_13 (by decide) (fun c_2 => ?_) (fun c_2 => ?_)
    · skip
      have hE := ite_f hE c_2
      refine lv_iconst (v := 0) X.1 X.2.1 dX12_lowest_20 (by decide) ?_
      have h9 := hE
      exact r_iret X I (e_i h9.symm rfl rfl) dX12_lowest_21
    · skip
      have hE := ite_t hE c_2
      refine lv_iconst (v := 1) X.1 X.2.1 dX12_lowest_16 (by decide) ?_
      refine lv_goto (tgt := 21) X.1 X.2.1 dX12_lowest_17 (by decide) ?_
      have h9 := hE
      exact r_iret X I (e_i h9.symm rfl rfl) dX12_lowest_21
  · skip
    have hE := ite_t hE c_1
    refine lv_iload_n X.1 X.2.1 dX12_lowest_6 rfl (lv_at hl 1 rfl) ?_
    refine lv_if_eq (tgt := 16) X.1 X.2.1 dX12_lowest_7 (by decide) (fun c_3 => ?_) (fun c_3 => ?_)
    · skip
      have hE := ite_t hE c_3
      refine lv_iconst (v := 1) X.1 X.2.1 dX12_lowest_16 (by decide) ?_
      refine lv_goto (tgt := 21) X.1 X.2.1 dX12_lowest_17 (by decide) ?_
      have h9 := hE
      exact r_iret X I (e_i h9.symm rfl rfl) dX12_lowest_21
    · skip
      have hE := ite_f hE c_3
      refine lv_iload_n X.1 X.2.1 dX12_lowest_10 rfl (lv_at hl 0 rfl) ?_
      refine lv_bipush (v := 98) X.1 X.2.1 dX12_lowest_11 (by decide) ?_
      refine lv_icmp_ne (tgt := 20) X.1 X.2.1 dX12_lowest_13 (by decide) (fun c_4 => ?_) (fun c_4 => ?_)
      · skip
        have hE := ite_f hE c_4
        refine lv_iconst (v := 0) X.1 X.2.1 dX12_lowest_20 (by decide) ?_
        have h9 := hE
        exact r_iret X I (e_i h9.symm rfl rfl) dX12_lowest_21
      · skip
        have hE := ite_t hE c_4
        refine lv_iconst (v := 1) X.1 X.2.1 dX12_lowest_16 (by decide) ?_
        refine lv_goto (tgt := 21) X.1 X.2.1 dX12_lowest_17 (by decide) ?_
        have h9 := hE
        exact r_iret X I (e_i h9.symm rfl rfl) dX12_lowest_21
noncomputable def f12_highest (x0 : Int32) (x1 : Int32) : Int32 := if x0 = 104 then (if x1 = (2 : Int32) then (30 : Int32) else (if x1 = (3 : Int32) then (1 : Int32) else (9 : Int32))) else (if x0 = 115 then (if x1 = (2 : Int32) then (9 : Int32) else (99 : Int32)) else (40 : Int32))
set_option maxHeartbeats 4000000 in
set_option maxRecDepth 100000 in
theorem c12_highest (l : Launch) (G : GT) (σ : SI) (τ : SL) (x0 : Int32) (x1 : Int32) : Mc l yX12_highest cX12_highest 2 (some .int) 0 G [.int x0, .int x1] σ τ (Qi G (Ei (f12_highest x0 x1) σ τ)) := by
  refine m_start (by decide +kernel) (Nat.le_of_ble_eq_true rfl) rfl (fun p e s m args below meth c ls X I hl => ?_)
  have hl : lv_has ls 2 [(0, .int x0), (1, .int x1)] := hl
  obtain ⟨E, hE⟩ : ∃ E, E = (f12_highest x0 x1) := ⟨_, rfl⟩
  rw [← hE]
  refine lv_iload_n X.1 X.2.1 dX12_highest_0 rfl (lv_at hl 0 rfl) ?_
  rcases Classical.em (x0 = 104) with c_1 | c_1
  · skip
    have hE := ite_t hE c_1
    refine lv_lookup (off := 40) (tgt := 41) X.1 X.2.1 dX12_highest_1 (by decide) (by rw [c_1]; decide) (by decide) ?_
    refine lv_iload_n X.1 X.2.1 dX12_highest_41 rfl (lv_at hl 1 rfl) ?_
    refine lv_iconst (v := 2) X.1 X.2.1 dX12_highest_42 (by decide) ?_
    refine lv_icmp_ne (tgt := 51) X.1 X.2.1 dX12_highest_43 (by decide) (fun c_2 => ?_) (fun c_2 => ?_)
    · skip
      have hE := ite_f hE c_2
      refine lv_iload_n X.1 X.2.1 dX12_highest_51 rfl (lv_at hl 1 rfl) ?_
      refine lv_iconst (v := 3) X.1 X.2.1 dX12_highest_52 (by decide) ?_
      refine lv_icmp_ne (tgt := 60) X.1 X.2.1 dX12_highest_53 (by decide) (fun c_3 => ?_) (fun c_3 => ?_)
      · skip
        have hE := ite_f hE c_3
        refine lv_bipush (v := 9) X.1 X.2.1 dX12_highest_60 (by decide) ?_
        have h9 := hE
        exact r_iret X I (e_i h9.symm rfl rfl) dX12_highest_62
      · skip
        have hE := ite_t hE c_3
        refine lv_iconst (v := 1) X.1 X.2.1 dX12_highest_56 (by decide) ?_
        refine lv_goto (tgt := 62) X.1 X.2.1 dX12_highest_57 (by decide) ?_
        have h9 := hE
        exact r_iret X I (e_i h9.symm rfl rfl) dX12_highest_62
    · skip
      have hE := ite_t hE c_2
      refine lv_bipush (v := 30) X.1 X.2.1 dX12_highest_46 (by decide) ?_
      refine lv_goto (tgt := 62) X.1 X.2.1 dX12_highest_48 (by decide) ?_
      have h9 := hE
      exact r_iret X I (e_i h9.symm rfl rfl) dX12_highest_62
  have hE := ite_f hE c_1
  rcases Classical.em (x0 = 115) with c_4 | c_4
  · skip
    have hE := ite_t hE c_4
    refine lv_lookup (off := 27) (tgt := 28) X.1 X.2.1 dX12_highest_1 (by decide) (by rw [c_4]; decide) (by decide) ?_
    refine lv_iload_n X.1 X.2.1 dX12_highest_28 rfl (lv_at hl 1 rfl) ?_
    refine lv_iconst (v := 2) X.1 X.2.1 dX12_highest_29 (by decide) ?_
    refine lv_icmp_ne (tgt := 38) X.1 X.2.1 dX12_highest_30 (by decide) (fun c_5 => ?_) (fun c_5 => ?_)
    · skip
      have hE := ite_f hE c_5
      refine lv_bipush (v := 99) X.1 X.2.1 dX12_highest_38 (by decide) ?_
      have h9 := hE
      exact r_iret X I (e_i h9.symm rfl rfl) dX12_highest_40
    · skip
      have hE := ite_t hE c_5
      refine lv_bipush (v := 9) X.1 X.2.1 dX12_highest_33 (by decide) ?_
      refine lv_goto (tgt := 40) X.1 X.2.1 dX12_highest_35 (by decide) ?_
      have h9 := hE
      exact r_iret X I (e_i h9.symm rfl rfl) dX12_highest_40
  have hE := ite_f hE c_4
  refine lv_lookup (off := 62) (tgt := 63) X.1 X.2.1 dX12_highest_1 (by decide) (sw_def _ _ _ (by decide) (fun q hq => by
    simp only [List.mem_cons, List.not_mem_nil, or_false] at hq
    rcases hq with rfl | rfl
    · exact fun h9 => c_1 (sw_eq h9)
    · exact fun h9 => c_4 (sw_eq h9))) (by decide) ?_
  refine lv_bipush (v := 40) X.1 X.2.1 dX12_highest_63 (by decide) ?_
  have h9 := hE
  exact r_iret X I (e_i h9.symm rfl rfl) dX12_highest_65
