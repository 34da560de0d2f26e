noncomputable def f12_workOut_c12 (x1 : Int32) (x2 : Int32) (x3 : Int32) : Nat → Int32 → Int32 → SI → (Int32 × SI)
  | 0, _, _, σ => (0, σ)
  | fu + 1, v4, v5, σ => if (((520 : Int32) * x1) + x3) ≤ v5 then ((σ 133 0), σ) else (if (σ 125 (Int32.toNatClampNeg v5)) = (0 : Int32) then (if (σ 125 (Int32.toNatClampNeg v5)) = (0 : Int32) then (let s1 := sp σ 133 (Int32.toNatClampNeg v4) (σ 126 (Int32.toNatClampNeg v5)); (f12_workOut_c12 x1 x2 x3 fu (v4 + 1) (v5 + 1) s1)) else (let s0 := sp σ 133 (Int32.toNatClampNeg v4) (σ 132 (Int32.toNatClampNeg (σ 126 (Int32.toNatClampNeg v5)))); (f12_workOut_c12 x1 x2 x3 fu (v4 + 1) (v5 + 1) s0))) else (if (σ 125 (Int32.toNatClampNeg v5)) = (1 : Int32) then (if (σ 125 (Int32.toNatClampNeg v5)) = (0 : Int32) then (let s5 := sp σ 133 (Int32.toNatClampNeg v4) (σ 126 (Int32.toNatClampNeg v5)); (f12_workOut_c12 x1 x2 x3 fu (v4 + 1) (v5 + 1) s5)) else (let s4 := sp σ 133 (Int32.toNatClampNeg v4) (σ 132 (Int32.toNatClampNeg (σ 126 (Int32.toNatClampNeg v5)))); (f12_workOut_c12 x1 x2 x3 fu (v4 + 1) (v5 + 1) s4))) else (if (σ 125 (Int32.toNatClampNeg v5)) = (9 : Int32) then (let s3 := sp σ 133 (Int32.toNatClampNeg (v4 - (1 : Int32))) ((1 : Int32) - (σ 133 (Int32.toNatClampNeg (v4 - (1 : Int32))))); (f12_workOut_c12 x1 x2 x3 fu v4 (v5 + 1) s3)) else (let s2 := sp σ 133 (Int32.toNatClampNeg ((v4 + (-1)) - (1 : Int32))) (f12_worked (σ 125 (Int32.toNatClampNeg v5)) (Int32.toInt64 (σ 133 (Int32.toNatClampNeg ((v4 + (-1)) - (1 : Int32))))) (Int32.toInt64 (σ 133 (Int32.toNatClampNeg (v4 + (-1)))))); (f12_workOut_c12 x1 x2 x3 fu (v4 + (-1)) (v5 + 1) s2)))))
noncomputable def o12_workOut_c12 (x1 : Int32) (x2 : Int32) (x3 : Int32) : Nat → Int32 → Int32 → SI → Prop
  | 0, _, _, _ => True
  | fu + 1, v4, v5, σ => if (((520 : Int32) * x1) + x3) ≤ v5 then True else ((vp_in v5 2600) ∧ (if (σ 125 (Int32.toNatClampNeg v5)) = (0 : Int32) then ((vp_in v5 2600) ∧ (if (σ 125 (Int32.toNatClampNeg v5)) = (0 : Int32) then ((vp_in v5 2600) ∧ ((vp_in v4 80) ∧ (let s1 := sp σ 133 (Int32.toNatClampNeg v4) (σ 126 (Int32.toNatClampNeg v5)); (o12_workOut_c12 x1 x2 x3 fu (v4 + 1) (v5 + 1) s1)))) else ((vp_in v5 2600) ∧ ((vp_in (σ 126 (Int32.toNatClampNeg v5)) 6) ∧ ((vp_in v4 80) ∧ (let s0 := sp σ 133 (Int32.toNatClampNeg v4) (σ 132 (Int32.toNatClampNeg (σ 126 (Int32.toNatClampNeg v5)))); (o12_workOut_c12 x1 x2 x3 fu (v4 + 1) (v5 + 1) s0))))))) else ((vp_in v5 2600) ∧ (if (σ 125 (Int32.toNatClampNeg v5)) = (1 : Int32) then ((vp_in v5 2600) ∧ (if (σ 125 (Int32.toNatClampNeg v5)) = (0 : Int32) then ((vp_in v5 2600) ∧ ((vp_in v4 80) ∧ (let s5 := sp σ 133 (Int32.toNatClampNeg v4) (σ 126 (Int32.toNatClampNeg v5)); (o12_workOut_c12 x1 x2 x3 fu (v4 + 1) (v5 + 1) s5)))) else ((vp_in v5 2600) ∧ ((vp_in (σ 126 (Int32.toNatClampNeg v5)) 6) ∧ ((vp_in v4 80) ∧ (let s4 := sp σ 133 (Int32.toNatClampNeg v4) (σ 132 (Int32.toNatClampNeg (σ 126 (Int32.toNatClampNeg v5)))); (o12_workOut_c12 x1 x2 x3 fu (v4 + 1) (v5 + 1) s4))))))) else ((vp_in v5 2600) ∧ (if (σ 125 (Int32.toNatClampNeg v5)) = (9 : Int32) then ((vp_in (v4 - (1 : Int32)) 80) ∧ ((vp_in (v4 - (1 : Int32)) 80) ∧ (let s3 := sp σ 133 (Int32.toNatClampNeg (v4 - (1 : Int32))) ((1 : Int32) - (σ 133 (Int32.toNatClampNeg (v4 - (1 : Int32))))); (o12_workOut_c12 x1 x2 x3 fu v4 (v5 + 1) s3)))) else ((vp_in v5 2600) ∧ ((vp_in ((v4 + (-1)) - (1 : Int32)) 80) ∧ ((vp_in (v4 + (-1)) 80) ∧ ((o12_worked (σ 125 (Int32.toNatClampNeg v5)) (Int32.toInt64 (σ 133 (Int32.toNatClampNeg ((v4 + (-1)) - (1 : Int32))))) (Int32.toInt64 (σ 133 (Int32.toNatClampNeg (v4 + (-1)))))) ∧ ((vp_in ((v4 + (-1)) - (1 : Int32)) 80) ∧ (let s2 := sp σ 133 (Int32.toNatClampNeg ((v4 + (-1)) - (1 : Int32))) (f12_worked (σ 125 (Int32.toNatClampNeg v5)) (Int32.toInt64 (σ 133 (Int32.toNatClampNeg ((v4 + (-1)) - (1 : Int32))))) (Int32.toInt64 (σ 133 (Int32.toNatClampNeg (v4 + (-1)))))); (o12_workOut_c12 x1 x2 x3 fu (v4 + (-1)) (v5 + 1) s2)))))))))))))
noncomputable def f12_workOut (σ : SI) (x1 : Int32) (x2 : Int32) (x3 : Int32) : Int32 × SI := (f12_workOut_c12 x1 x2 x3 (fu1 ((Int32.toInt (((520 : Int32) * x1) + x3) - Int32.toInt (((520 : Int32) * x1) + x2)).toNat)) (0 : Int32) (((520 : Int32) * x1) + x2) σ)
noncomputable def o12_workOut (σ : SI) (x1 : Int32) (x2 : Int32) (x3 : Int32) : Prop := (o12_workOut_c12 x1 x2 x3 (fu1 ((Int32.toInt (((520 : Int32) * x1) + x3) - Int32.toInt (((520 : Int32) * x1) + x2)).toNat)) (0 : Int32) (((520 : Int32) * x1) + x2) σ)
theorem w_f12_workOut_c12 (x1 : Int32) (x2 : Int32) (x3 : Int32) (a : Nat) (h0 : a ≠ 133) : ∀ (fu : Nat) (v4 : Int32) (v5 : Int32) (σ : SI), (f12_workOut_c12 x1 x2 x3 fu v4 v5 σ).2 a = σ a := by
  intro fu
  induction fu with
  | zero => intro v4 v5 σ; exact rfl
  | succ fu ih =>
    intro v4 v5 σ
    refine fp_to2 ?_
    unfold f12_workOut_c12
    exact (fr_ite2 (fr_mk21 rfl) (fr_ite2 (fr_ite2 (fp_of2 (((ih _ _ _).trans (sp_n h0)))) (fp_of2 (((ih _ _ _).trans (sp_n h0))))) (fr_ite2 (fr_ite2 (fp_of2 (((ih _ _ _).trans (sp_n h0)))) (fp_of2 (((ih _ _ _).trans (sp_n h0))))) (fr_ite2 (fp_of2 (((ih _ _ _).trans (sp_n h0)))) (fp_of2 (((ih _ _ _).trans (sp_n h0))))))))
theorem w_f12_workOut (σ : SI) (x1 : Int32) (x2 : Int32) (x3 : Int32) (a : Nat) (h0 : a ≠ 133) : (f12_workOut σ x1 x2 x3).2 a = σ a := by
  refine fp_to2 ?_
  unfold f12_workOut
  exact (fp_of2 ((w_f12_workOut_c12 _ _ _ a h0 _ _ _ _)))
set_option maxHeartbeats 4000000 in
set_option maxRecDepth 100000 in
theorem c12_workOut_c12 {l : Launch} {p : Program} {e : Env} {s : State} {m : MethodId} {args : Array Value} {below : List Frame} {meth : Method} {c : Code} {G : GT} (X : CX p s m args meth c cX12_workOut RX12 6 (some .int) G) {E : Int32 × SI} (τ : SL) (x1 : Int32) (x2 : Int32) (x3 : Int32) : ∀ (fu : Nat) (v4 : Int32) (v5 : Int32) (σ : SI) (H : Heap) (locs : List Loc) (ls : Array Slot), IX G s H locs σ τ → lv_has ls 6 [(0, .ref (G.2.1 123)), (1, .int x1), (2, .int x2), (3, .int x3), (4, .int v4), (5, .int v5)] → (o12_workOut_c12 x1 x2 x3 fu v4 v5 σ) → (Int32.toInt (((520 : Int32) * x1) + x3) - Int32.toInt v5).toNat < fu → E = (f12_workOut_c12 x1 x2 x3 fu v4 v5 σ) → W p l e (rmN 3) s m args below meth c H locs 0 0 (MQ below ((Qi G (Ei E.1 E.2 τ)) s.heap.size) args s 0 0 (AW G s.heap.size)) (F0 m 12 ls []) := by
  intro fu
  induction fu with
  | zero =>
    intro v4 v5 σ H locs ls I hl  ho hm hE
    exact absurd hm (Nat.not_lt_zero _)
  | succ fu ih =>
    intro v4 v5 σ H locs ls I hl  ho hm hE
    unfold o12_workOut_c12 at ho
    refine lv_iload X.1 X.2.1 dX12_workOut_12 (lv_at hl 5 rfl) ?_
    refine lv_sipush (v := 520) X.1 X.2.1 dX12_workOut_14 (by decide) ?_
    refine lv_iload_n X.1 X.2.1 dX12_workOut_17 rfl (lv_at hl 1 rfl) ?_
    refine lv_imul X.1 X.2.1 dX12_workOut_18 ?_
    refine lv_iload_n X.1 X.2.1 dX12_workOut_19 rfl (lv_at hl 3 rfl) ?_
    refine lv_iadd X.1 X.2.1 dX12_workOut_20 ?_
    refine lv_icmp_ge (tgt := 171) X.1 X.2.1 dX12_workOut_21 (by decide) (fun c_1 => ?_) (fun c_1 => ?_)
    · skip
      have hE := ite_t hE c_1
      have ho := ite_tP ho c_1
      refine lv_aload_n X.1 X.2.1 dX12_workOut_171 rfl (lv_at hl 0 rfl) ?_
      refine g12_16 X I (k := 123) (by decide) rfl lf_X12_37 dX12_workOut_172 ?_
      refine lv_iconst (v := 0) X.1 X.2.1 dX12_workOut_175 (by decide) ?_
      refine r_ald X I (k := 133) (n := 80) (by decide) rfl (by unfold vp_in; decide) dX12_workOut_176 ?_
      have h9 := hE
      exact r_iret X I (e_i (pr_fst h9) (pr_snd h9) rfl) dX12_workOut_177
    · skip
      have hE := ite_f hE c_1
      have ho := ite_fP ho c_1
      refine lv_aload_n X.1 X.2.1 dX12_workOut_24 rfl (lv_at hl 0 rfl) ?_
      refine g12_6 X I (k := 123) (by decide) rfl lf_X12_13 dX12_workOut_25 ?_
      refine lv_iload X.1 X.2.1 dX12_workOut_28 (lv_at hl 5 rfl) ?_
      have ho1 := ho.1
      have ho := ho.2
      refine r_ald X I (k := 125) (n := 2600) (by decide) rfl ho1 dX12_workOut_30 ?_
      refine lv_if_eq (tgt := 45) X.1 X.2.1 dX12_workOut_31 (by decide) (fun c_2 => ?_) (fun c_2 => ?_)
      · skip
        have hE := ite_t hE c_2
        have ho := ite_tP ho c_2
        refine lv_aload_n X.1 X.2.1 dX12_workOut_45 rfl (lv_at hl 0 rfl) ?_
        refine g12_16 X I (k := 123) (by decide) rfl lf_X12_37 dX12_workOut_46 ?_
        refine lv_iload X.1 X.2.1 dX12_workOut_49 (lv_at hl 4 rfl) ?_
        refine lv_aload_n X.1 X.2.1 dX12_workOut_51 rfl (lv_at hl 0 rfl) ?_
        refine g12_6 X I (k := 123) (by decide) rfl lf_X12_13 dX12_workOut_52 ?_
        refine lv_iload X.1 X.2.1 dX12_workOut_55 (lv_at hl 5 rfl) ?_
        have ho2 := ho.1
        have ho := ho.2
        refine r_ald X I (k := 125) (n := 2600) (by decide) rfl ho2 dX12_workOut_57 ?_
        refine lv_if_ne (tgt := 71) X.1 X.2.1 dX12_workOut_58 (by decide) (fun c_3 => ?_) (fun c_3 => ?_)
        · skip
          have hE := ite_f hE c_3
          have ho := ite_fP ho c_3
          refine lv_aload_n X.1 X.2.1 dX12_workOut_71 rfl (lv_at hl 0 rfl) ?_
          refine g12_15 X I (k := 123) (by decide) rfl lf_X12_34 dX12_workOut_72 ?_
          refine lv_aload_n X.1 X.2.1 dX12_workOut_75 rfl (lv_at hl 0 rfl) ?_
          refine g12_7 X I (k := 123) (by decide) rfl lf_X12_16 dX12_workOut_76 ?_
          refine lv_iload X.1 X.2.1 dX12_workOut_79 (lv_at hl 5 rfl) ?_
          have ho3 := ho.1
          have ho := ho.2
          refine r_ald X I (k := 126) (n := 2600) (by decide) rfl ho3 dX12_workOut_81 ?_
          have ho4 := ho.1
          have ho := ho.2
          refine r_ald X I (k := 132) (n := 6) (by decide) rfl ho4 dX12_workOut_82 ?_
          have ho5 := ho.1
          have ho := ho.2
          refine r_ast X I (k := 133) (n := 80) (by decide) rfl ho5 dX12_workOut_83 (fun H locs I => ?_)
          refine lv_iinc (v := _ + 1) (lv' := [(4, .int _), (0, .ref _), (1, .int _), (2, .int _), (3, .int _), (5, .int _)]) X.1 X.2.1 dX12_workOut_84 hl (k := 4) rfl rfl (by decide) rfl (fun ls hl => ?_)
          refine lv_goto (tgt := 165) X.1 X.2.1 dX12_workOut_87 (by decide) ?_
          refine lv_iinc (v := _ + 1) (lv' := [(5, .int _), (4, .int _), (0, .ref _), (1, .int _), (2, .int _), (3, .int _)]) X.1 X.2.1 dX12_workOut_165 hl (k := 5) rfl rfl (by decide) rfl (fun ls hl => ?_)
          refine lv_goto (tgt := 12) X.1 X.2.1 dX12_workOut_168 (by decide) ?_
          exact ih _ _ _ _ _ _ I (lv_sub hl [2, 3, 4, 5, 1, 0] rfl) ho (Nat.lt_of_lt_of_le (up_dec c_1) (Nat.le_of_lt_succ hm)) (hE.trans (rfl))
        · skip
          have hE := ite_t hE c_3
          have ho := ite_tP ho c_3
          refine lv_aload_n X.1 X.2.1 dX12_workOut_61 rfl (lv_at hl 0 rfl) ?_
          refine g12_7 X I (k := 123) (by decide) rfl lf_X12_16 dX12_workOut_62 ?_
          refine lv_iload X.1 X.2.1 dX12_workOut_65 (lv_at hl 5 rfl) ?_
          have ho6 := ho.1
          have ho := ho.2
          refine r_ald X I (k := 126) (n := 2600) (by decide) rfl ho6 dX12_workOut_67 ?_
          refine lv_goto (tgt := 83) X.1 X.2.1 dX12_workOut_68 (by decide) ?_
          have ho7 := ho.1
          have ho := ho.2
          refine r_ast X I (k := 133) (n := 80) (by decide) rfl ho7 dX12_workOut_83 (fun H locs I => ?_)
          refine lv_iinc (v := _ + 1) (lv' := [(4, .int _), (0, .ref _), (1, .int _), (2, .int _), (3, .int _), (5, .int _)]) X.1 X.2.1 dX12_workOut_84 hl (k := 4) rfl rfl (by decide) rfl (fun ls hl => ?_)
          refine lv_goto (tgt := 165) X.1 X.2.1 dX12_workOut_87 (by decide) ?_
          refine lv_iinc (v := _ + 1) (lv' := [(5, .int _), (4, .int _), (0, .ref _), (1, .int _), (2, .int _), (3, .int _)]) X.1 X.2.1 dX12_workOut_165 hl (k := 5) rfl rfl (by decide) rfl (fun ls hl => ?_)
          refine lv_goto (tgt := 12) X.1 X.2.1 dX12_workOut_168 (by decide) ?_
          exact ih _ _ _ _ _ _ I (lv_sub hl [2, 3, 4, 5, 1, 0] rfl) ho (Nat.lt_of_lt_of_le (up_dec c_1) (Nat.le_of_lt_succ hm)) (hE.trans (rfl))
      · skip
        have hE := ite_f hE c_2
        have ho := ite_fP ho c_2
        refine lv_aload_n X.1 X.2.1 dX12_workOut_34 rfl (lv_at hl 0 rfl) ?_
        refine g12_6 X I (k := 123) (by decide) rfl lf_X12_13 dX12_workOut_35 ?_
        refine lv_iload X.1 X.2.1 dX12_workOut_38 (lv_at hl 5 rfl) ?_
        have ho8 := ho.1
        have ho := ho.2
        refine r_ald X I (k := 125) (n := 2600) (by decide) rfl ho8 dX12_workOut_40 ?_
        refine lv_iconst (v := 1) X.1 X.2.1 dX12_workOut_41 (by decide) ?_
        refine lv_icmp_ne (tgt := 90) X.1 X.2.1 dX12_workOut_42 (by decide) (fun c_4 => ?_) (fun c_4 => ?_)
        · skip
          have hE := ite_f hE c_4
          have ho := ite_fP ho c_4
          refine lv_aload_n X.1 X.2.1 dX12_workOut_90 rfl (lv_at hl 0 rfl) ?_
          refine g12_6 X I (k := 123) (by decide) rfl lf_X12_13 dX12_workOut_91 ?_
          refine lv_iload X.1 X.2.1 dX12_workOut_94 (lv_at hl 5 rfl) ?_
          have ho9 := ho.1
          have ho := ho.2
          refine r_ald X I (k := 125) (n := 2600) (by decide) rfl ho9 dX12_workOut_96 ?_
          refine lv_bipush (v := 9) X.1 X.2.1 dX12_workOut_97 (by decide) ?_
          refine lv_icmp_ne (tgt := 125) X.1 X.2.1 dX12_workOut_99 (by decide) (fun c_5 => ?_) (fun c_5 => ?_)
          · skip
            have hE := ite_f hE c_5
            have ho := ite_fP ho c_5
            refine lv_iinc (v := _ + (-1)) (lv' := [(4, .int _), (0, .ref _), (1, .int _), (2, .int _), (3, .int _), (5, .int _)]) X.1 X.2.1 dX12_workOut_125 hl (k := 4) rfl rfl (by decide) rfl (fun ls hl => ?_)
            refine lv_aload_n X.1 X.2.1 dX12_workOut_128 rfl (lv_at hl 1 rfl) ?_
            refine g12_16 X I (k := 123) (by decide) rfl lf_X12_37 dX12_workOut_129 ?_
            refine lv_iload X.1 X.2.1 dX12_workOut_132 (lv_at hl 0 rfl) ?_
            refine lv_iconst (v := 1) X.1 X.2.1 dX12_workOut_134 (by decide) ?_
            refine lv_isub X.1 X.2.1 dX12_workOut_135 ?_
            refine lv_aload_n X.1 X.2.1 dX12_workOut_136 rfl (lv_at hl 1 rfl) ?_
            refine g12_6 X I (k := 123) (by decide) rfl lf_X12_13 dX12_workOut_137 ?_
            refine lv_iload X.1 X.2.1 dX12_workOut_140 (lv_at hl 5 rfl) ?_
            have ho10 := ho.1
            have ho := ho.2
            refine r_ald X I (k := 125) (n := 2600) (by decide) rfl ho10 dX12_workOut_142 ?_
            refine lv_aload_n X.1 X.2.1 dX12_workOut_143 rfl (lv_at hl 1 rfl) ?_
            refine g12_16 X I (k := 123) (by decide) rfl lf_X12_37 dX12_workOut_144 ?_
            refine lv_iload X.1 X.2.1 dX12_workOut_147 (lv_at hl 0 rfl) ?_
            refine lv_iconst (v := 1) X.1 X.2.1 dX12_workOut_149 (by decide) ?_
            refine lv_isub X.1 X.2.1 dX12_workOut_150 ?_
            have ho11 := ho.1
            have ho := ho.2
            refine r_ald X I (k := 133) (n := 80) (by decide) rfl ho11 dX12_workOut_151 ?_
            refine lv_i2l X.1 X.2.1 dX12_workOut_152 rfl ?_
            refine lv_aload_n X.1 X.2.1 dX12_workOut_153 rfl (lv_at hl 1 rfl) ?_
            refine g12_16 X I (k := 123) (by decide) rfl lf_X12_37 dX12_workOut_154 ?_
            refine lv_iload X.1 X.2.1 dX12_workOut_157 (lv_at hl 0 rfl) ?_
            have ho12 := ho.1
            have ho := ho.2
            refine r_ald X I (k := 133) (n := 80) (by decide) rfl ho12 dX12_workOut_159 ?_
            refine lv_i2l X.1 X.2.1 dX12_workOut_160 rfl ?_
            have ho13 := ho.1
            have ho := ho.2
            refine r_ei I (r_runS X I pk_X12_worked (c12_worked l G _ _ _ _ _ ho13) lm_X12_212 rfl hl.1 rfl (Nat.le_of_ble_eq_true rfl) dX12_workOut_161 ⟨Nat.le_of_ble_eq_true rfl, Nat.le_of_ble_eq_true rfl⟩ ⟨Nat.le_refl 0, Nat.le_refl 0⟩) (fun H locs I => ?_)
            have ho14 := ho.1
            have ho := ho.2
            refine r_ast X I (k := 133) (n := 80) (by decide) rfl ho14 dX12_workOut_164 (fun H locs I => ?_)
            refine lv_iinc (v := _ + 1) (lv' := [(5, .int _), (4, .int _), (0, .ref _), (1, .int _), (2, .int _), (3, .int _)]) X.1 X.2.1 dX12_workOut_165 hl (k := 5) rfl rfl (by decide) rfl (fun ls hl => ?_)
            refine lv_goto (tgt := 12) X.1 X.2.1 dX12_workOut_168 (by decide) ?_
            exact ih _ _ _ _ _ _ I (lv_sub hl [2, 3, 4, 5, 1, 0] rfl) ho (Nat.lt_of_lt_of_le (up_dec c_1) (Nat.le_of_lt_succ hm)) (hE.trans (rfl))
          · skip
            have hE := ite_t hE c_5
            have ho := ite_tP ho c_5
            refine lv_aload_n X.1 X.2.1 dX12_workOut_102 rfl (lv_at hl 0 rfl) ?_
            refine g12_16 X I (k := 123) (by decide) rfl lf_X12_37 dX12_workOut_103 ?_
            refine lv_iload X.1 X.2.1 dX12_workOut_106 (lv_at hl 4 rfl) ?_
            refine lv_iconst (v := 1) X.1 X.2.1 dX12_workOut_108 (by decide) ?_
            refine lv_isub X.1 X.2.1 dX12_workOut_109 ?_
            refine lv_iconst (v := 1) X.1 X.2.1 dX12_workOut_110 (by decide) ?_
            refine lv_aload_n X.1 X.2.1 dX12_workOut_111 rfl (lv_at hl 0 rfl) ?_
            refine g12_16 X I (k := 123) (by decide) rfl lf_X12_37 dX12_workOut_112 ?_
            refine lv_iload X.1 X.2.1 dX12_workOut_115 (lv_at hl 4 rfl) ?_
            refine lv_iconst (v := 1) X.1 X.2.1 dX12_workOut_117 (by decide) ?_
            refine lv_isub X.1 X.2.1 dX12_workOut_118 ?_
            have ho15 := ho.1
            have ho := ho.2
            refine r_ald X I (k := 133) (n := 80) (by decide) rfl ho15 dX12_workOut_119 ?_
            refine lv_isub X.1 X.2.1 dX12_workOut_120 ?_
            have ho16 := ho.1
            have ho := ho.2
            refine r_ast X I (k := 133) (n := 80) (by decide) rfl ho16 dX12_workOut_121 (fun H locs I => ?_)
            refine lv_goto (tgt := 165) X.1 X.2.1 dX12_workOut_122 (by decide) ?_
            refine lv_iinc (v := _ + 1) (lv' := [(5, .int _), (0, .ref _), (1, .int _), (2, .int _), (3, .int _), (4, .int _)]) X.1 X.2.1 dX12_workOut_165 hl (k := 5) rfl rfl (by decide) rfl (fun ls hl => ?_)
            refine lv_goto (tgt := 12) X.1 X.2.1 dX12_workOut_168 (by decide) ?_
            exact ih _ _ _ _ _ _ I (lv_sub hl [1, 2, 3, 4, 5, 0] rfl) ho (Nat.lt_of_lt_of_le (up_dec c_1) (Nat.le_of_lt_succ hm)) (hE.trans (rfl))
        · skip
          have hE := ite_t hE c_4
          have ho := ite_tP ho c_4
          refine lv_aload_n X.1 X.2.1 dX12_workOut_45 rfl (lv_at hl 0 rfl) ?_
          refine g12_16 X I (k := 123) (by decide) rfl lf_X12_37 dX12_workOut_46 ?_
          refine lv_iload X.1 X.2.1 dX12_workOut_49 (lv_at hl 4 rfl) ?_
          refine lv_aload_n X.1 X.2.1 dX12_workOut_51 rfl (lv_at hl 0 rfl) ?_
          refine g12_6 X I (k := 123) (by decide) rfl lf_X12_13 dX12_workOut_52 ?_
          refine lv_iload X.1 X.2.1 dX12_workOut_55 (lv_at hl 5 rfl) ?_
          have ho17 := ho.1
          have ho := ho.2
          refine r_ald X I (k := 125) (n := 2600) (by decide) rfl ho17 dX12_workOut_57 ?_
          refine lv_if_ne (tgt := 71) X.1 X.2.1 dX12_workOut_58 (by decide) (fun c_6 => ?_) (fun c_6 => ?_)
          · skip
            have hE := ite_f hE c_6
            have ho := ite_fP ho c_6
            refine lv_aload_n X.1 X.2.1 dX12_workOut_71 rfl (lv_at hl 0 rfl) ?_
            refine g12_15 X I (k := 123) (by decide) rfl lf_X12_34 dX12_workOut_72 ?_
            refine lv_aload_n X.1 X.2.1 dX12_workOut_75 rfl (lv_at hl 0 rfl) ?_
            refine g12_7 X I (k := 123) (by decide) rfl lf_X12_16 dX12_workOut_76 ?_
            refine lv_iload X.1 X.2.1 dX12_workOut_79 (lv_at hl 5 rfl) ?_
            have ho18 := ho.1
            have ho := ho.2
            refine r_ald X I (k := 126) (n := 2600) (by decide) rfl ho18 dX12_workOut_81 ?_
            have ho19 := ho.1
            have ho := ho.2
            refine r_ald X I (k := 132) (n := 6) (by decide) rfl ho19 dX12_workOut_82 ?_
            have ho20 := ho.1
            have ho := ho.2
            refine r_ast X I (k := 133) (n := 80) (by decide) rfl ho20 dX12_workOut_83 (fun H locs I => ?_)
            refine lv_iinc (v := _ + 1) (lv' := [(4, .int _), (0, .ref _), (1, .int _), (2, .int _), (3, .int _), (5, .int _)]) X.1 X.2.1 dX12_workOut_84 hl (k := 4) rfl rfl (by decide) rfl (fun ls hl => ?_)
            refine lv_goto (tgt := 165) X.1 X.2.1 dX12_workOut_87 (by decide) ?_
            refine lv_iinc (v := _ + 1) (lv' := [(5, .int _), (4, .int _), (0, .ref _), (1, .int _), (2, .int _), (3, .int _)]) X.1 X.2.1 dX12_workOut_165 hl (k := 5) rfl rfl (by decide) rfl (fun ls hl => ?_)
            refine lv_goto (tgt := 12) X.1 X.2.1 dX12_workOut_168 (by decide) ?_
            exact ih _ _ _ _ _ _ I (lv_sub hl [2, 3, 4, 5, 1, 0] rfl) ho (Nat.lt_of_lt_of_le (up_dec c_1) (Nat.le_of_lt_succ hm)) (hE.trans (rfl))
          · skip
            have hE := ite_t hE c_6
            have ho := ite_tP ho c_6
            refine lv_aload_n X.1 X.2.1 dX12_workOut_61 rfl (lv_at hl 0 rfl) ?_
            refine g12_7 X I (k := 123) (by decide) rfl lf_X12_16 dX12_workOut_62 ?_
            refine lv_iload X.1 X.2.1 dX12_workOut_65 (lv_at hl 5 rfl) ?_
            have ho21 := ho.1
            have ho := ho.2
            refine r_ald X I (k := 126) (n := 2600) (by decide) rfl ho21 dX12_workOut_67 ?_
            refine lv_goto (tgt := 83) X.1 X.2.1 dX12_workOut_68 (by decide) ?_
            have ho22 := ho.1
            have ho := ho.2
            refine r_ast X I (k := 133) (n := 80) (by decide) rfl ho22 dX12_workOut_83 (fun H locs I => ?_)
            refine lv_iinc (v := _ + 1) (lv' := [(4, .int _), (0, .ref _), (1, .int _), (2, .int _), (3, .int _), (5, .int _)]) X.1 X.2.1 dX12_workOut_84 hl (k := 4) rfl rfl (by decide) rfl (fun ls hl => ?_)
            refine lv_goto (tgt := 165) X.1 X.2.1 dX12_workOut_87 (by decide) ?_
            refine lv_iinc (v := _ + 1) (lv' := [(5, .int _), (4, .int _), (0, .ref _), (1, .int _), (2, .int _), (3, .int _)]) X.1 X.2.1 dX12_workOut_165 hl (k := 5) rfl rfl (by decide) rfl (fun ls hl => ?_)
            refine lv_goto (tgt := 12) X.1 X.2.1 dX12_workOut_168 (by decide) ?_
            exact ih _ _ _ _ _ _ I (lv_sub hl [2, 3, 4, 5, 1, 0] rfl) ho (Nat.lt_of_lt_of_le (up_dec c_1) (Nat.le_of_lt_succ hm)) (hE.trans (rfl))
set_option maxHeartbeats 4000000 in
set_option maxRecDepth 100000 in
theorem c12_workOut (l : Launch) (G : GT) (σ : SI) (τ : SL) (x1 : Int32) (x2 : Int32) (x3 : Int32) (ho : o12_workOut σ x1 x2 x3) : Mc l yX12_workOut cX12_workOut 6 (some .int) 3 G [.ref (G.2.1 123), .int x1, .int x2, .int x3] σ τ (Qi G (Ei (f12_workOut σ x1 x2 x3).1 (f12_workOut σ x1 x2 x3).2 τ)) := by
  refine m_start (by decide +kernel) (Nat.le_of_ble_eq_true rfl) rfl (fun p e s m args below meth c ls X I hl => ?_)
  have hl : lv_has ls 6 [(0, .ref (G.2.1 123)), (1, .int x1), (2, .int x2), (3, .int x3)] := hl
  obtain ⟨E, hE⟩ : ∃ E, E = (f12_workOut σ x1 x2 x3) := ⟨_, rfl⟩
  rw [← hE]
  unfold o12_workOut at ho
  refine lv_iconst (v := 0) X.1 X.2.1 dX12_workOut_0 (by decide) ?_
  refine lv_istore (lv' := [(4, .int _), (0, .ref _), (1, .int _), (2, .int _), (3, .int _)]) X.1 X.2.1 dX12_workOut_1 hl (by decide) rfl (fun ls hl => ?_)
  refine lv_sipush (v := 520) X.1 X.2.1 dX12_workOut_3 (by decide) ?_
  refine lv_iload_n X.1 X.2.1 dX12_workOut_6 rfl (lv_at hl 2 rfl) ?_
  refine lv_imul X.1 X.2.1 dX12_workOut_7 ?_
  refine lv_iload_n X.1 X.2.1 dX12_workOut_8 rfl (lv_at hl 3 rfl) ?_
  refine lv_iadd X.1 X.2.1 dX12_workOut_9 ?_
  refine lv_istore (lv' := [(5, .int _), (4, .int _), (0, .ref _), (1, .int _), (2, .int _), (3, .int _)]) X.1 X.2.1 dX12_workOut_10 hl (by decide) rfl (fun ls hl => ?_)
  exact c12_workOut_c12 X _ _ _ _ _ _ _ _ _ _ _ I (lv_sub hl [2, 3, 4, 5, 1, 0] rfl) ho (fu1_lt _) (hE.trans (rfl))
