noncomputable def f12_worthOf_c6 (x1 : Int32) : Nat → Int32 → SI → (Int32 × SI)
  | 0, _, σ => (0, σ)
  | fu + 1, v2, σ => if (((140 : Int32) * x1) + (σ 128 (Int32.toNatClampNeg x1))) ≤ v2 then ((0 : Int32), σ) else (if (σ 129 (Int32.toNatClampNeg v2)) = (σ 130 (Int32.toNatClampNeg v2)) then (let r0 := (f12_workOut σ x1 (σ 130 (Int32.toNatClampNeg v2)) (σ 131 (Int32.toNatClampNeg v2))); r0) else (let r1 := (f12_workOut σ x1 (σ 129 (Int32.toNatClampNeg v2)) (σ 130 (Int32.toNatClampNeg v2))); if r1.1 = (0 : Int32) then (f12_worthOf_c6 x1 fu (v2 + 1) r1.2) else (let r2 := (f12_workOut r1.2 x1 (r1.2 130 (Int32.toNatClampNeg v2)) (r1.2 131 (Int32.toNatClampNeg v2))); r2)))
noncomputable def o12_worthOf_c6 (x1 : Int32) : Nat → Int32 → SI → Prop
  | 0, _, _ => True
  | fu + 1, v2, σ => (vp_in x1 5) ∧ (if (((140 : Int32) * x1) + (σ 128 (Int32.toNatClampNeg x1))) ≤ v2 then True else ((vp_in v2 700) ∧ ((vp_in v2 700) ∧ (if (σ 129 (Int32.toNatClampNeg v2)) = (σ 130 (Int32.toNatClampNeg v2)) then ((vp_in v2 700) ∧ ((vp_in v2 700) ∧ ((o12_workOut σ x1 (σ 130 (Int32.toNatClampNeg v2)) (σ 131 (Int32.toNatClampNeg v2))) ∧ (let r0 := (f12_workOut σ x1 (σ 130 (Int32.toNatClampNeg v2)) (σ 131 (Int32.toNatClampNeg v2))); True)))) else ((vp_in v2 700) ∧ ((vp_in v2 700) ∧ ((o12_workOut σ x1 (σ 129 (Int32.toNatClampNeg v2)) (σ 130 (Int32.toNatClampNeg v2))) ∧ (let r1 := (f12_workOut σ x1 (σ 129 (Int32.toNatClampNeg v2)) (σ 130 (Int32.toNatClampNeg v2))); if r1.1 = (0 : Int32) then (o12_worthOf_c6 x1 fu (v2 + 1) r1.2) else ((vp_in v2 700) ∧ ((vp_in v2 700) ∧ ((o12_workOut r1.2 x1 (r1.2 130 (Int32.toNatClampNeg v2)) (r1.2 131 (Int32.toNatClampNeg v2))) ∧ (let r2 := (f12_workOut r1.2 x1 (r1.2 130 (Int32.toNatClampNeg v2)) (r1.2 131 (Int32.toNatClampNeg v2))); True))))))))))))
noncomputable def f12_worthOf (σ : SI) (x1 : Int32) : Int32 × SI := (f12_worthOf_c6 x1 (fu1 ((Int32.toInt (((140 : Int32) * x1) + (σ 128 (Int32.toNatClampNeg x1))) - Int32.toInt ((140 : Int32) * x1)).toNat)) ((140 : Int32) * x1) σ)
noncomputable def o12_worthOf (σ : SI) (x1 : Int32) : Prop := (o12_worthOf_c6 x1 (fu1 ((Int32.toInt (((140 : Int32) * x1) + (σ 128 (Int32.toNatClampNeg x1))) - Int32.toInt ((140 : Int32) * x1)).toNat)) ((140 : Int32) * x1) σ)
theorem w_f12_worthOf_c6 (x1 : Int32) (a : Nat) (h0 : a ≠ 133) : ∀ (fu : Nat) (v2 : Int32) (σ : SI), (f12_worthOf_c6 x1 fu v2 σ).2 a = σ a := by
  intro fu
  induction fu with
  | zero => intro v2 σ; exact rfl
  | succ fu ih =>
    intro v2 σ
    refine fp_to2 ?_
    unfold f12_worthOf_c6
    exact (fr_ite2 (fr_mk21 rfl) (fr_ite2 (w_f12_workOut _ _ _ _ a h0) (fr_ite2 (fp_of2 (((ih _ _).trans (w_f12_workOut _ _ _ _ a h0)))) ((w_f12_workOut _ _ _ _ a h0).trans (w_f12_workOut _ _ _ _ a h0)))))
theorem w_f12_worthOf (σ : SI) (x1 : Int32) (a : Nat) (h0 : a ≠ 133) : (f12_worthOf σ x1).2 a = σ a := by
  refine fp_to2 ?_
  unfold f12_worthOf
  exact (fp_of2 ((w_f12_worthOf_c6 _ a h0 _ _ _)))
set_option maxHeartbeats 4000000 in
set_option maxRecDepth 100000 in
theorem c12_worthOf_c6 {l : Launch} {p : Program} {e : Env} {s : State} {m : MethodId} {args : Array Value} {below : List Frame} {meth : Method} {c : Code} {G : GT} (X : CX p s m args meth c cX12_worthOf RX12 3 (some .int) G) {E : Int32 × SI} (τ : SL) (x1 : Int32) : ∀ (fu : Nat) (v2 : Int32) (σ : SI) (H : Heap) (locs : List Loc) (ls : Array Slot), IX G s H locs σ τ → lv_has ls 3 [(0, .ref (G.2.1 123)), (1, .int x1), (2, .int v2)] → (o12_worthOf_c6 x1 fu v2 σ) → (Int32.toInt (((140 : Int32) * x1) + (σ 128 (Int32.toNatClampNeg x1))) - Int32.toInt v2).toNat < fu → E = (f12_worthOf_c6 x1 fu v2 σ) → W p l e (rmN 4) s m args below meth c H locs 0 0 (MQ below ((Qi G (Ei E.1 E.2 τ)) s.heap.size) args s 0 0 (AW G s.heap.size)) (F0 m 6 ls []) := by
  intro fu
  induction fu with
  | zero =>
    intro v2 σ H locs ls I hl  ho hm hE
    exact absurd hm (Nat.not_lt_zero _)
  | succ fu ih =>
    intro v2 σ H locs ls I hl  ho hm hE
    unfold o12_worthOf_c6 at ho
    refine lv_iload_n X.1 X.2.1 dX12_worthOf_6 rfl (lv_at hl 2 rfl) ?_
    refine lv_sipush (v := 140) X.1 X.2.1 dX12_worthOf_7 (by decide) ?_
    refine lv_iload_n X.1 X.2.1 dX12_worthOf_10 rfl (lv_at hl 1 rfl) ?_
    refine lv_imul X.1 X.2.1 dX12_worthOf_11 ?_
    refine lv_aload_n X.1 X.2.1 dX12_worthOf_12 rfl (lv_at hl 0 rfl) ?_
    refine g12_9 X I (k := 123) (by decide) rfl lf_X12_22 dX12_worthOf_13 ?_
    refine lv_iload_n X.1 X.2.1 dX12_worthOf_16 rfl (lv_at hl 1 rfl) ?_
    have ho1 := ho.1
    have ho := ho.2
    refine r_ald X I (k := 128) (n := 5) (by decide) rfl ho1 dX12_worthOf_17 ?_
    refine lv_iadd X.1 X.2.1 dX12_worthOf_18 ?_
    refine lv_icmp_ge (tgt := 81) X.1 X.2.1 dX12_worthOf_19 (by decide) (fun c_1 => ?_) (fun c_1 => ?_)
    · skip
      have hE := ite_t hE c_1
      have ho := ite_tP ho c_1
      refine lv_iconst (v := 0) X.1 X.2.1 dX12_worthOf_81 (by decide) ?_
      have h9 := hE
      exact r_iret X I (e_i (pr_fst h9) (pr_snd h9) rfl) dX12_worthOf_82
    · skip
      have hE := ite_f hE c_1
      have ho := ite_fP ho c_1
      refine lv_aload_n X.1 X.2.1 dX12_worthOf_22 rfl (lv_at hl 0 rfl) ?_
      refine g12_10 X I (k := 123) (by decide) rfl lf_X12_25 dX12_worthOf_23 ?_
      refine lv_iload_n X.1 X.2.1 dX12_worthOf_26 rfl (lv_at hl 2 rfl) ?_
      have ho2 := ho.1
      have ho := ho.2
      refine r_ald X I (k := 129) (n := 700) (by decide) rfl ho2 dX12_worthOf_27 ?_
      refine lv_aload_n X.1 X.2.1 dX12_worthOf_28 rfl (lv_at hl 0 rfl) ?_
      refine g12_11 X I (k := 123) (by decide) rfl lf_X12_28 dX12_worthOf_29 ?_
      refine lv_iload_n X.1 X.2.1 dX12_worthOf_32 rfl (lv_at hl 2 rfl) ?_
      have ho3 := ho.1
      have ho := ho.2
      refine r_ald X I (k := 130) (n := 700) (by decide) rfl ho3 dX12_worthOf_33 ?_
      refine lv_icmp_eq (tgt := 57) X.1 X.2.1 dX12_worthOf_34 (by decide) (fun c_2 => ?_) (fun c_2 => ?_)
      · skip
        have hE := ite_t hE c_2
        have ho := ite_tP ho c_2
        refine lv_aload_n X.1 X.2.1 dX12_worthOf_57 rfl (lv_at hl 0 rfl) ?_
        refine lv_iload_n X.1 X.2.1 dX12_worthOf_58 rfl (lv_at hl 1 rfl) ?_
        refine lv_aload_n X.1 X.2.1 dX12_worthOf_59 rfl (lv_at hl 0 rfl) ?_
        refine g12_11 X I (k := 123) (by decide) rfl lf_X12_28 dX12_worthOf_60 ?_
        refine lv_iload_n X.1 X.2.1 dX12_worthOf_63 rfl (lv_at hl 2 rfl) ?_
        have ho4 := ho.1
        have ho := ho.2
        refine r_ald X I (k := 130) (n := 700) (by decide) rfl ho4 dX12_worthOf_64 ?_
        refine lv_aload_n X.1 X.2.1 dX12_worthOf_65 rfl (lv_at hl 0 rfl) ?_
        refine g12_12 X I (k := 123) (by decide) rfl lf_X12_31 dX12_worthOf_66 ?_
        refine lv_iload_n X.1 X.2.1 dX12_worthOf_69 rfl (lv_at hl 2 rfl) ?_
        have ho5 := ho.1
        have ho := ho.2
        refine r_ald X I (k := 131) (n := 700) (by decide) rfl ho5 dX12_worthOf_70 ?_
        have ho6 := ho.1
        have ho := ho.2
        refine r_ei I (r_runV X I pk_X12_workOut (c12_workOut l G _ _ _ _ _ ho6) lm_X12_216 (by decide) (cl_12 rfl) rfl rfl rfl hl.1 rfl (Nat.le_of_ble_eq_true rfl) dX12_worthOf_71 ⟨Nat.le_of_ble_eq_true rfl, Nat.le_of_ble_eq_true rfl⟩ ⟨Nat.le_refl 0, Nat.le_refl 0⟩) (fun H locs I => ?_)
        have h9 := hE
        exact r_iret X I (e_i (congrArg Prod.fst h9).symm (congrArg Prod.snd h9).symm rfl) dX12_worthOf_74
      · skip
        have hE := ite_f hE c_2
        have ho := ite_fP ho c_2
        refine lv_aload_n X.1 X.2.1 dX12_worthOf_37 rfl (lv_at hl 0 rfl) ?_
        refine lv_iload_n X.1 X.2.1 dX12_worthOf_38 rfl (lv_at hl 1 rfl) ?_
        refine lv_aload_n X.1 X.2.1 dX12_worthOf_39 rfl (lv_at hl 0 rfl) ?_
        refine g12_10 X I (k := 123) (by decide) rfl lf_X12_25 dX12_worthOf_40 ?_
        refine lv_iload_n X.1 X.2.1 dX12_worthOf_43 rfl (lv_at hl 2 rfl) ?_
        have ho7 := ho.1
        have ho := ho.2
        refine r_ald X I (k := 129) (n := 700) (by decide) rfl ho7 dX12_worthOf_44 ?_
        refine lv_aload_n X.1 X.2.1 dX12_worthOf_45 rfl (lv_at hl 0 rfl) ?_
        refine g12_11 X I (k := 123) (by decide) rfl lf_X12_28 dX12_worthOf_46 ?_
        refine lv_iload_n X.1 X.2.1 dX12_worthOf_49 rfl (lv_at hl 2 rfl) ?_
        have ho8 := ho.1
        have ho := ho.2
        refine r_ald X I (k := 130) (n := 700) (by decide) rfl ho8 dX12_worthOf_50 ?_
        have ho9 := ho.1
        have ho := ho.2
        refine r_ei I (r_runV X I pk_X12_workOut (c12_workOut l G _ _ _ _ _ ho9) lm_X12_216 (by decide) (cl_12 rfl) rfl rfl rfl hl.1 rfl (Nat.le_of_ble_eq_true rfl) dX12_worthOf_51 ⟨Nat.le_of_ble_eq_true rfl, Nat.le_of_ble_eq_true rfl⟩ ⟨Nat.le_refl 0, Nat.le_refl 0⟩) (fun H locs I => ?_)
        refine lv_if_eq (tgt := 75) X.1 X.2.1 dX12_worthOf_54 (by decide) (fun c_3 => ?_) (fun c_3 => ?_)
        · skip
          have hE := ite_t hE c_3
          have ho := ite_tP ho c_3
          refine lv_iinc (v := _ + 1) (lv' := [(2, .int _), (0, .ref _), (1, .int _)]) X.1 X.2.1 dX12_worthOf_75 hl (k := 2) rfl rfl (by decide) rfl (fun ls hl => ?_)
          refine lv_goto (tgt := 6) X.1 X.2.1 dX12_worthOf_78 (by decide) ?_
          exact ih _ _ _ _ _ I (lv_sub hl [1, 2, 0] rfl) ho (Nat.lt_of_lt_of_le (dec_c (by first | with_reducible rfl | simp [w_f12_workOut, sp_n]) (up_dec c_1)) (Nat.le_of_lt_succ hm)) (hE.trans (rfl))
        · skip
          have hE := ite_f hE c_3
          have ho := ite_fP ho c_3
          refine lv_aload_n X.1 X.2.1 dX12_worthOf_57 rfl (lv_at hl 0 rfl) ?_
          refine lv_iload_n X.1 X.2.1 dX12_worthOf_58 rfl (lv_at hl 1 rfl) ?_
          refine lv_aload_n X.1 X.2.1 dX12_worthOf_59 rfl (lv_at hl 0 rfl) ?_
          refine g12_11 X I (k := 123) (by decide) rfl lf_X12_28 dX12_worthOf_60 ?_
          refine lv_iload_n X.1 X.2.1 dX12_worthOf_63 rfl (lv_at hl 2 rfl) ?_
          have ho10 := ho.1
          have ho := ho.2
          refine r_ald X I (k := 130) (n := 700) (by decide) rfl ho10 dX12_worthOf_64 ?_
          refine lv_aload_n X.1 X.2.1 dX12_worthOf_65 rfl (lv_at hl 0 rfl) ?_
          refine g12_12 X I (k := 123) (by decide) rfl lf_X12_31 dX12_worthOf_66 ?_
          refine lv_iload_n X.1 X.2.1 dX12_worthOf_69 rfl (lv_at hl 2 rfl) ?_
          have ho11 := ho.1
          have ho := ho.2
          refine r_ald X I (k := 131) (n := 700) (by decide) rfl ho11 dX12_worthOf_70 ?_
          have ho12 := ho.1
          have ho := ho.2
          refine r_ei I (r_runV X I pk_X12_workOut (c12_workOut l G _ _ _ _ _ ho12) lm_X12_216 (by decide) (cl_12 rfl) rfl rfl rfl hl.1 rfl (Nat.le_of_ble_eq_true rfl) dX12_worthOf_71 ⟨Nat.le_of_ble_eq_true rfl, Nat.le_of_ble_eq_true rfl⟩ ⟨Nat.le_refl 0, Nat.le_refl 0⟩) (fun H locs I => ?_)
          have h9 := hE
          exact r_iret X I (e_i (congrArg Prod.fst h9).symm (congrArg Prod.snd h9).symm rfl) dX12_worthOf_74
set_option maxHeartbeats 4000000 in
set_option maxRecDepth 100000 in
theorem c12_worthOf (l : Launch) (G : GT) (σ : SI) (τ : SL) (x1 : Int32) (ho : o12_worthOf σ x1) : Mc l yX12_worthOf cX12_worthOf 3 (some .int) 4 G [.ref (G.2.1 123), .int x1] σ τ (Qi G (Ei (f12_worthOf σ x1).1 (f12_worthOf σ x1).2 τ)) := by
  refine m_start (by decide +kernel) (Nat.le_of_ble_eq_true rfl) rfl (fun p e s m args below meth c ls X I hl => ?_)
  have hl : lv_has ls 3 [(0, .ref (G.2.1 123)), (1, .int x1)] := hl
  obtain ⟨E, hE⟩ : ∃ E, E = (f12_worthOf σ x1) := ⟨_, rfl⟩
  rw [← hE]
  unfold o12_worthOf at ho
  refine lv_sipush (v := 140) X.1 X.2.1 dX12_worthOf_0 (by decide) ?_
  refine lv_iload_n X.1 X.2.1 dX12_worthOf_3 rfl (lv_at hl 1 rfl) ?_
  refine lv_imul X.1 X.2.1 dX12_worthOf_4 ?_
  refine lv_istore_n (lv' := [(2, .int _), (0, .ref _), (1, .int _)]) X.1 X.2.1 dX12_worthOf_5 rfl hl (by decide) rfl (fun ls hl => ?_)
  exact c12_worthOf_c6 X _ _ _ _ _ _ _ _ I (lv_sub hl [1, 2, 0] rfl) ho (fu1_lt _) (hE.trans (rfl))
noncomputable def f12_number (σ : SI) (x1 : Int32) (x2 : Int32) : Int32 × SI := let r0 := (f12_look σ); if (f12_isDigit r0.1) = true then (let s1 := sp r0.2 123 3 ((r0.2 123 3) + (1 : Int32)); if (f12_isDigit (f12_here s1)) = true then (let s5 := sp s1 123 3 (((r0.2 123 3) + (1 : Int32)) + (1 : Int32)); if (f12_isDigit (f12_here s5)) = true then (let s8 := (f12_bad s5); (((((10 : Int32) * ((f12_here r0.2) - (48 : Int32))) + (f12_here s1)) - (48 : Int32)), s8)) else (if (f12_in ((((10 : Int32) * ((f12_here r0.2) - (48 : Int32))) + (f12_here s1)) - (48 : Int32)) x1 x2) = true then (((((10 : Int32) * ((f12_here r0.2) - (48 : Int32))) + (f12_here s1)) - (48 : Int32)), s5) else (let s6 := sp s5 123 3 ((((r0.2 123 3) + (1 : Int32)) + (1 : Int32)) - (1 : Int32)); let s7 := (f12_bad s6); (((((10 : Int32) * ((f12_here r0.2) - (48 : Int32))) + (f12_here s1)) - (48 : Int32)), s7)))) else (if (f12_isDigit (f12_here s1)) = true then (let s4 := (f12_bad s1); (((f12_here r0.2) - (48 : Int32)), s4)) else (if (f12_in ((f12_here r0.2) - (48 : Int32)) x1 x2) = true then (((f12_here r0.2) - (48 : Int32)), s1) else (let s2 := sp s1 123 3 (((r0.2 123 3) + (1 : Int32)) - (1 : Int32)); let s3 := (f12_bad s2); (((f12_here r0.2) - (48 : Int32)), s3))))) else (let s9 := (f12_bad r0.2); (x1, s9))
noncomputable def o12_number (σ : SI) (x1 : Int32) (x2 : Int32) : Prop := (o12_look σ) ∧ (let r0 := (f12_look σ); if (f12_isDigit r0.1) = true then ((o12_here r0.2) ∧ (let s1 := sp r0.2 123 3 ((r0.2 123 3) + (1 : Int32)); (o12_here s1) ∧ (if (f12_isDigit (f12_here s1)) = true then ((o12_here s1) ∧ (let s5 := sp s1 123 3 (((r0.2 123 3) + (1 : Int32)) + (1 : Int32)); (o12_here s5) ∧ (if (f12_isDigit (f12_here s5)) = true then (let s8 := (f12_bad s5); True) else (if (f12_in ((((10 : Int32) * ((f12_here r0.2) - (48 : Int32))) + (f12_here s1)) - (48 : Int32)) x1 x2) = true then True else (let s6 := sp s5 123 3 ((((r0.2 123 3) + (1 : Int32)) + (1 : Int32)) - (1 : Int32)); let s7 := (f12_bad s6); True))))) else ((o12_here s1) ∧ (if (f12_isDigit (f12_here s1)) = true then (let s4 := (f12_bad s1); True) else (if (f12_in ((f12_here r0.2) - (48 : Int32)) x1 x2) = true then True else (let s2 := sp s1 123 3 (((r0.2 123 3) + (1 : Int32)) - (1 : Int32)); let s3 := (f12_bad s2); True))))))) else (let s9 := (f12_bad r0.2); True))
theorem w_f12_number (σ : SI) (x1 : Int32) (x2 : Int32) (a : Nat) (h0 : a ≠ 123) : (f12_number σ x1 x2).2 a = σ a := by
  refine fp_to2 ?_
  unfold f12_number
  exact (fr_ite2 (fr_ite2 (fr_ite2 (fr_mk21 ((w_f12_bad _ a h0).trans ((sp_n h0).trans ((sp_n h0).trans (w_f12_look _ a h0))))) (fr_ite2 (fr_mk21 ((sp_n h0).trans ((sp_n h0).trans (w_f12_look _ a h0)))) (fr_mk21 ((w_f12_bad _ a h0).trans ((sp_n h0).trans ((sp_n h0).trans ((sp_n h0).trans (w_f12_look _ a h0)))))))) (fr_ite2 (fr_mk21 ((w_f12_bad _ a h0).trans ((sp_n h0).trans (w_f12_look _ a h0)))) (fr_ite2 (fr_mk21 ((sp_n h0).trans (w_f12_look _ a h0))) (fr_mk21 ((w_f12_bad _ a h0).trans ((sp_n h0).trans ((sp_n h0).trans (w_f12_look _ a h0)))))))) (fr_mk21 ((w_f12_bad _ a h0).trans (w_f12_look _ a h0))))
set_option maxHeartbeats 4000000 in
set_option maxRecDepth 100000 in
theorem c12_number (l : Launch) (G : GT) (σ : SI) (τ : SL) (x1 : Int32) (x2 : Int32) (ho : o12_number σ x1 x2) : Mc l yX12_number cX12_number 4 (some .int) 2 G [.ref (G.2.1 123), .int x1, .int x2] σ τ (Qi G (Ei (f12_number σ x1 x2).1 (f12_number σ x1 x2).2 τ)) := by
  refine m_start (by decide +kernel) (Nat.le_of_ble_eq_true rfl) rfl (fun p e s m args below meth c ls X I hl => ?_)
  have hl : lv_has ls 4 [(0, .ref (G.2.1 123)), (1, .int x1), (2, .int x2)] := hl
  obtain ⟨E, hE⟩ : ∃ E, E = (f12_number σ x1 x2) := ⟨_, rfl⟩
  rw [← hE]
  unfold o12_number at ho
  refine lv_aload_n X.1 X.2.1 dX12_number_0 rfl (lv_at hl 0 rfl) ?_
  have ho1 := ho.1
  have ho := ho.2
  refine r_ei I (r_runV X I pk_X12_look (c12_look l G _ _ ho1) lm_X12_134 (by decide) (cl_12 rfl) rfl rfl rfl hl.1 rfl (Nat.le_of_ble_eq_true rfl) dX12_number_1 ⟨Nat.le_of_ble_eq_true rfl, Nat.le_of_ble_eq_true rfl⟩ ⟨Nat.le_refl 0, Nat.le_refl 0⟩) (fun H locs I => ?_)
  refine r_ei I (r_runS X I pk_X12_isDigit (c12_isDigit l G _ _ _) lm_X12_137 rfl hl.1 rfl (Nat.le_of_ble_eq_true rfl) dX12_number_4 ⟨Nat.le_of_ble_eq_true rfl, Nat.le_of_ble_eq_true rfl⟩ ⟨Nat.le_refl 0, Nat.le_refl 0⟩) (fun H locs I => ?_)
  refine lv_if_ne (tgt := 16) X.1 X.2.1 dX12_number_7 (by decide) (fun c_1 => ?_) (fun c_1 => ?_)
  · skip
    have hE := ite_t hE (b2i_y c_1)
    have ho := ite_tP ho (b2i_y c_1)
    refine lv_aload_n X.1 X.2.1 dX12_number_16 rfl (lv_at hl 0 rfl) ?_
    have ho2 := ho.1
    have ho := ho.2
    refine r_ei I (r_runV X I pk_X12_here (c12_here l G _ _ ho2) lm_X12_118 (by decide) (cl_12 rfl) rfl rfl rfl hl.1 rfl (Nat.le_of_ble_eq_true rfl) dX12_number_17 ⟨Nat.le_of_ble_eq_true rfl, Nat.le_of_ble_eq_true rfl⟩ ⟨Nat.le_refl 0, Nat.le_refl 0⟩) (fun H locs I => ?_)
    refine lv_bipush (v := 48) X.1 X.2.1 dX12_number_20 (by decide) ?_
    refine lv_isub X.1 X.2.1 dX12_number_22 ?_
    refine lv_istore_n (lv' := [(3, .int _), (0, .ref _), (1, .int _), (2, .int _)]) X.1 X.2.1 dX12_number_23 rfl hl (by decide) rfl (fun ls hl => ?_)
    refine lv_aload_n X.1 X.2.1 dX12_number_24 rfl (lv_at hl 1 rfl) ?_
    refine lv_dup X.1 X.2.1 dX12_number_25 rfl ?_
    refine g12_3 X I (k := 123) (by decide) rfl lf_X12_115 dX12_number_26 ?_
    refine lv_iconst (v := 1) X.1 X.2.1 dX12_number_29 (by decide) ?_
    refine lv_iadd X.1 X.2.1 dX12_number_30 ?_
    refine p12_3 X I (k := 123) (by decide) rfl lf_X12_115 dX12_number_31 (fun H locs I => ?_)
    refine lv_aload_n X.1 X.2.1 dX12_number_34 rfl (lv_at hl 1 rfl) ?_
    have ho3 := ho.1
    have ho := ho.2
    refine r_ei I (r_runV X I pk_X12_here (c12_here l G _ _ ho3) lm_X12_118 (by decide) (cl_12 rfl) rfl rfl rfl hl.1 rfl (Nat.le_of_ble_eq_true rfl) dX12_number_35 ⟨Nat.le_of_ble_eq_true rfl, Nat.le_of_ble_eq_true rfl⟩ ⟨Nat.le_refl 0, Nat.le_refl 0⟩) (fun H locs I => ?_)
    refine r_ei I (r_runS X I pk_X12_isDigit (c12_isDigit l G _ _ _) lm_X12_137 rfl hl.1 rfl (Nat.le_of_ble_eq_true rfl) dX12_number_38 ⟨Nat.le_of_ble_eq_true rfl, Nat.le_of_ble_eq_true rfl⟩ ⟨Nat.le_refl 0, Nat.le_refl 0⟩) (fun H locs I => ?_)
    refine lv_if_eq (tgt := 67) X.1 X.2.1 dX12_number_41 (by decide) (fun c_2 => ?_) (fun c_2 => ?_)
    · skip
      have hE := ite_f hE (b2i_n c_2)
      have ho := ite_fP ho (b2i_n c_2)
      refine lv_aload_n X.1 X.2.1 dX12_number_67 rfl (lv_at hl 1 rfl) ?_
      have ho4 := ho.1
      have ho := ho.2
      refine r_ei I (r_runV X I pk_X12_here (c12_here l G _ _ ho4) lm_X12_118 (by decide) (cl_12 rfl) rfl rfl rfl hl.1 rfl (Nat.le_of_ble_eq_true rfl) dX12_number_68 ⟨Nat.le_of_ble_eq_true rfl, Nat.le_of_ble_eq_true rfl⟩ ⟨Nat.le_refl 0, Nat.le_refl 0⟩) (fun H locs I => ?_)
      refine r_ei I (r_runS X I pk_X12_isDigit (c12_isDigit l G _ _ _) lm_X12_137 rfl hl.1 rfl (Nat.le_of_ble_eq_true rfl) dX12_number_71 ⟨Nat.le_of_ble_eq_true rfl, Nat.le_of_ble_eq_true rfl⟩ ⟨Nat.le_refl 0, Nat.le_refl 0⟩) (fun H locs I => ?_)
      refine lv_if_eq (tgt := 84) X.1 X.2.1 dX12_number_74 (by decide) (fun c_3 => ?_) (fun c_3 => ?_)
      · skip
        have hE := ite_f hE (b2i_n c_3)
        have ho := ite_fP ho (b2i_n c_3)
        refine lv_iload_n X.1 X.2.1 dX12_number_84 rfl (lv_at hl 0 rfl) ?_
        refine lv_iload_n X.1 X.2.1 dX12_number_85 rfl (lv_at hl 2 rfl) ?_
        refine lv_iload_n X.1 X.2.1 dX12_number_86 rfl (lv_at hl 3 rfl) ?_
        refine r_ei I (r_runS X I pk_X12_in (c12_in l G _ _ _ _ _) lm_X12_220 rfl hl.1 rfl (Nat.le_of_ble_eq_true rfl) dX12_number_87 ⟨Nat.le_of_ble_eq_true rfl, Nat.le_of_ble_eq_true rfl⟩ ⟨Nat.le_refl 0, Nat.le_refl 0⟩) (fun H locs I => ?_)
        refine lv_if_ne (tgt := 107) X.1 X.2.1 dX12_number_90 (by decide) (fun c_4 => ?_) (fun c_4 => ?_)
        · skip
          have hE := ite_t hE (b2i_y c_4)
          have ho := ite_tP ho (b2i_y c_4)
          refine lv_iload_n X.1 X.2.1 dX12_number_107 rfl (lv_at hl 0 rfl) ?_
          have h9 := hE
          exact r_iret X I (e_i (pr_fst h9) (pr_snd h9) rfl) dX12_number_108
        · skip
          have hE := ite_f hE (b2i_n c_4)
          have ho := ite_fP ho (b2i_n c_4)
          refine lv_aload_n X.1 X.2.1 dX12_number_93 rfl (lv_at hl 1 rfl) ?_
          refine lv_dup X.1 X.2.1 dX12_number_94 rfl ?_
          refine g12_3 X I (k := 123) (by decide) rfl lf_X12_115 dX12_number_95 ?_
          refine lv_iconst (v := 1) X.1 X.2.1 dX12_number_98 (by decide) ?_
          refine lv_isub X.1 X.2.1 dX12_number_99 ?_
          refine p12_3 X I (k := 123) (by decide) rfl lf_X12_115 dX12_number_100 (fun H locs I => ?_)
          refine lv_aload_n X.1 X.2.1 dX12_number_103 rfl (lv_at hl 1 rfl) ?_
          refine r_ev I (r_runV X I pk_X12_bad (c12_bad l G _ _) lm_X12_131 (by decide) (cl_12 rfl) rfl rfl rfl hl.1 rfl (Nat.le_of_ble_eq_true rfl) dX12_number_104 ⟨Nat.le_of_ble_eq_true rfl, Nat.le_of_ble_eq_true rfl⟩ ⟨Nat.le_refl 0, Nat.le_refl 0⟩) (fun H locs I => ?_)
          refine lv_iload_n X.1 X.2.1 dX12_number_107 rfl (lv_at hl 0 rfl) ?_
          have h9 := hE
          exact r_iret X I (e_i (pr_fst h9) (pr_snd h9) rfl) dX12_number_108
      · skip
        have hE := ite_t hE (b2i_y c_3)
        have ho := ite_tP ho (b2i_y c_3)
        refine lv_aload_n X.1 X.2.1 dX12_number_77 rfl (lv_at hl 1 rfl) ?_
        refine r_ev I (r_runV X I pk_X12_bad (c12_bad l G _ _) lm_X12_131 (by decide) (cl_12 rfl) rfl rfl rfl hl.1 rfl (Nat.le_of_ble_eq_true rfl) dX12_number_78 ⟨Nat.le_of_ble_eq_true rfl, Nat.le_of_ble_eq_true rfl⟩ ⟨Nat.le_refl 0, Nat.le_refl 0⟩) (fun H locs I => ?_)
        refine lv_goto (tgt := 107) X.1 X.2.1 dX12_number_81 (by decide) ?_
        refine lv_iload_n X.1 X.2.1 dX12_number_107 rfl (lv_at hl 0 rfl) ?_
        have h9 := hE
        exact r_iret X I (e_i (pr_fst h9) (pr_snd h9) rfl) dX12_number_108
    · skip
      have hE := ite_t hE (b2i_y c_2)
      have ho := ite_tP ho (b2i_y c_2)
      refine lv_bipush (v := 10) X.1 X.2.1 dX12_number_44 (by decide) ?_
      refine lv_iload_n X.1 X.2.1 dX12_number_46 rfl (lv_at hl 0 rfl) ?_
      refine lv_imul X.1 X.2.1 dX12_number_47 ?_
      refine lv_aload_n X.1 X.2.1 dX12_number_48 rfl (lv_at hl 1 rfl) ?_
      have ho5 := ho.1
      have ho := ho.2
      refine r_ei I (r_runV X I pk_X12_here (c12_here l G _ _ ho5) lm_X12_118 (by decide) (cl_12 rfl) rfl rfl rfl hl.1 rfl (Nat.le_of_ble_eq_true rfl) dX12_number_49 ⟨Nat.le_of_ble_eq_true rfl, Nat.le_of_ble_eq_true rfl⟩ ⟨Nat.le_refl 0, Nat.le_refl 0⟩) (fun H locs I => ?_)
      refine lv_iadd X.1 X.2.1 dX12_number_52 ?_
      refine lv_bipush (v := 48) X.1 X.2.1 dX12_number_53 (by decide) ?_
      refine lv_isub X.1 X.2.1 dX12_number_55 ?_
      refine lv_istore_n (lv' := [(3, .int _), (0, .ref _), (1, .int _), (2, .int _)]) X.1 X.2.1 dX12_number_56 rfl hl (by decide) rfl (fun ls hl => ?_)
      refine lv_aload_n X.1 X.2.1 dX12_number_57 rfl (lv_at hl 1 rfl) ?_
      refine lv_dup X.1 X.2.1 dX12_number_58 rfl ?_
      refine g12_3 X I (k := 123) (by decide) rfl lf_X12_115 dX12_number_59 ?_
      refine lv_iconst (v := 1) X.1 X.2.1 dX12_number_62 (by decide) ?_
      refine lv_iadd X.1 X.2.1 dX12_number_63 ?_
      refine p12_3 X I (k := 123) (by decide) rfl lf_X12_115 dX12_number_64 (fun H locs I => ?_)
      refine lv_aload_n X.1 X.2.1 dX12_number_67 rfl (lv_at hl 1 rfl) ?_
      have ho6 := ho.1
      have ho := ho.2
      refine r_ei I (r_runV X I pk_X12_here (c12_here l G _ _ ho6) lm_X12_118 (by decide) (cl_12 rfl) rfl rfl rfl hl.1 rfl (Nat.le_of_ble_eq_true rfl) dX12_number_68 ⟨Nat.le_of_ble_eq_true rfl, Nat.le_of_ble_eq_true rfl⟩ ⟨Nat.le_refl 0, Nat.le_refl 0⟩) (fun H locs I => ?_)
      refine r_ei I (r_runS X I pk_X12_isDigit (c12_isDigit l G _ _ _) lm_X12_137 rfl hl.1 rfl (Nat.le_of_ble_eq_true rfl) dX12_number_71 ⟨Nat.le_of_ble_eq_true rfl, Nat.le_of_ble_eq_true rfl⟩ ⟨Nat.le_refl 0, Nat.le_refl 0⟩) (fun H locs I => ?_)
      refine lv_if_eq (tgt := 84) X.1 X.2.1 dX12_number_74 (by decide) (fun c_5 => ?_) (fun c_5 => ?_)
      · skip
        have hE := ite_f hE (b2i_n c_5)
        have ho := ite_fP ho (b2i_n c_5)
        refine lv_iload_n X.1 X.2.1 dX12_number_84 rfl (lv_at hl 0 rfl) ?_
        refine lv_iload_n X.1 X.2.1 dX12_number_85 rfl (lv_at hl 2 rfl) ?_
        refine lv_iload_n X.1 X.2.1 dX12_number_86 rfl (lv_at hl 3 rfl) ?_
        refine r_ei I (r_runS X I pk_X12_in (c12_in l G _ _ _ _ _) lm_X12_220 rfl hl.1 rfl (Nat.le_of_ble_eq_true rfl) dX12_number_87 ⟨Nat.le_of_ble_eq_true rfl, Nat.le_of_ble_eq_true rfl⟩ ⟨Nat.le_refl 0, Nat.le_refl 0⟩) (fun H locs I => ?_)
        refine lv_if_ne (tgt := 107) X.1 X.2.1 dX12_number_90 (by decide) (fun c_6 => ?_) (fun c_6 => ?_)
        · skip
          have hE := ite_t hE (b2i_y c_6)
          have ho := ite_tP ho (b2i_y c_6)
          refine lv_iload_n X.1 X.2.1 dX12_number_107 rfl (lv_at hl 0 rfl) ?_
          have h9 := hE
          exact r_iret X I (e_i (pr_fst h9) (pr_snd h9) rfl) dX12_number_108
        · skip
          have hE := ite_f hE (b2i_n c_6)
          have ho := ite_fP ho (b2i_n c_6)
          refine lv_aload_n X.1 X.2.1 dX12_number_93 rfl (lv_at hl 1 rfl) ?_
          refine lv_dup X.1 X.2.1 dX12_number_94 rfl ?_
          refine g12_3 X I (k := 123) (by decide) rfl lf_X12_115 dX12_number_95 ?_
          refine lv_iconst (v := 1) X.1 X.2.1 dX12_number_98 (by decide) ?_
          refine lv_isub X.1 X.2.1 dX12_number_99 ?_
          refine p12_3 X I (k := 123) (by decide) rfl lf_X12_115 dX12_number_100 (fun H locs I => ?_)
          refine lv_aload_n X.1 X.2.1 dX12_number_103 rfl (lv_at hl 1 rfl) ?_
          refine r_ev I (r_runV X I pk_X12_bad (c12_bad l G _ _) lm_X12_131 (by decide) (cl_12 rfl) rfl rfl rfl hl.1 rfl (Nat.le_of_ble_eq_true rfl) dX12_number_104 ⟨Nat.le_of_ble_eq_true rfl, Nat.le_of_ble_eq_true rfl⟩ ⟨Nat.le_refl 0, Nat.le_refl 0⟩) (fun H locs I => ?_)
          refine lv_iload_n X.1 X.2.1 dX12_number_107 rfl (lv_at hl 0 rfl) ?_
          have h9 := hE
          exact r_iret X I (e_i (pr_fst h9) (pr_snd h9) rfl) dX12_number_108
      · skip
        have hE := ite_t hE (b2i_y c_5)
        have ho := ite_tP ho (b2i_y c_5)
        refine lv_aload_n X.1 X.2.1 dX12_number_77 rfl (lv_at hl 1 rfl) ?_
        refine r_ev I (r_runV X I pk_X12_bad (c12_bad l G _ _) lm_X12_131 (by decide) (cl_12 rfl) rfl rfl rfl hl.1 rfl (Nat.le_of_ble_eq_true rfl) dX12_number_78 ⟨Nat.le_of_ble_eq_true rfl, Nat.le_of_ble_eq_true rfl⟩ ⟨Nat.le_refl 0, Nat.le_refl 0⟩) (fun H locs I => ?_)
        refine lv_goto (tgt := 107) X.1 X.2.1 dX12_number_81 (by decide) ?_
        refine lv_iload_n X.1 X.2.1 dX12_number_107 rfl (lv_at hl 0 rfl) ?_
        have h9 := hE
        exact r_iret X I (e_i (pr_fst h9) (pr_snd h9) rfl) dX12_number_108
  · skip
    have hE := ite_f hE (b2i_n c_1)
    have ho := ite_fP ho (b2i_n c_1)
    refine lv_aload_n X.1 X.2.1 dX12_number_10 rfl (lv_at hl 0 rfl) ?_
    refine r_ev I (r_runV X I pk_X12_bad (c12_bad l G _ _) lm_X12_131 (by decide) (cl_12 rfl) rfl rfl rfl hl.1 rfl (Nat.le_of_ble_eq_true rfl) dX12_number_11 ⟨Nat.le_of_ble_eq_true rfl, Nat.le_of_ble_eq_true rfl⟩ ⟨Nat.le_refl 0, Nat.le_refl 0⟩) (fun H locs I => ?_)
    refine lv_iload_n X.1 X.2.1 dX12_number_14 rfl (lv_at hl 1 rfl) ?_
    have h9 := hE
    exact r_iret X I (e_i (pr_fst h9) (pr_snd h9) rfl) dX12_number_15
