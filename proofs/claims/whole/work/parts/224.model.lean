noncomputable def f12_route (σ : SI) (x1 : Int32) : Int32 × SI := if (σ 123 25) = (0 : Int32) then ((-1 : Int32), σ) else (if (f12_in x1 (0 : Int32) (2 : Int32)) = true then (let s0 := sp σ 123 36 (-1 : Int32); let s1 := sp s0 123 37 (0 : Int32); let s2 := sp s1 123 35 (0 : Int32); let s3 := (f12_tryRouteR s2 (0 : Int32) (0 : Int32) (0 : Int32)); if x1 = (0 : Int32) then (if (s3 123 37) = (0 : Int32) then ((-1 : Int32), s3) else ((s3 123 35), s3)) else (if x1 = (1 : Int32) then ((s3 123 36), s3) else ((s3 123 38), s3))) else ((-1 : Int32), σ))
noncomputable def o12_route (σ : SI) (x1 : Int32) : Prop := if (σ 123 25) = (0 : Int32) then True else (if (f12_in x1 (0 : Int32) (2 : Int32)) = true then (let s0 := sp σ 123 36 (-1 : Int32); let s1 := sp s0 123 37 (0 : Int32); let s2 := sp s1 123 35 (0 : Int32); (o12_tryRouteR s2 (0 : Int32) (0 : Int32) (0 : Int32)) ∧ (let s3 := (f12_tryRouteR s2 (0 : Int32) (0 : Int32) (0 : Int32)); if x1 = (0 : Int32) then (if (s3 123 37) = (0 : Int32) then True else True) else (if x1 = (1 : Int32) then True else True))) else True)
theorem w_f12_route (σ : SI) (x1 : Int32) (a : Nat) (h0 : a ≠ 123) (h1 : a ≠ 132) (h2 : a ≠ 133) (h3 : a ≠ 140) (h4 : a ≠ 143) : (f12_route σ x1).2 a = σ a := by
  refine fp_to2 ?_
  unfold f12_route
  exact (fr_ite2 (fr_mk21 rfl) (fr_ite2 (fr_ite2 (fr_ite2 (fr_mk21 ((w_f12_tryRouteR _ _ _ _ a h0 h1 h2 h3 h4).trans ((sp_n h0).trans ((sp_n h0).trans (sp_n h0))))) (fr_mk21 ((w_f12_tryRouteR _ _ _ _ a h0 h1 h2 h3 h4).trans ((sp_n h0).trans ((sp_n h0).trans (sp_n h0)))))) (fr_ite2 (fr_mk21 ((w_f12_tryRouteR _ _ _ _ a h0 h1 h2 h3 h4).trans ((sp_n h0).trans ((sp_n h0).trans (sp_n h0))))) (fr_mk21 ((w_f12_tryRouteR _ _ _ _ a h0 h1 h2 h3 h4).trans ((sp_n h0).trans ((sp_n h0).trans (sp_n h0))))))) (fr_mk21 rfl)))
set_option maxHeartbeats 4000000 in
set_option maxRecDepth 100000 in
theorem c12_route (l : Launch) (G : GT) (σ : SI) (τ : SL) (x1 : Int32) (ho : o12_route σ x1) : Mc l yX12_route cX12_route 2 (some .int) 50 G [.ref (G.2.1 123), .int x1] σ τ (Qi G (Ei (f12_route σ x1).1 (f12_route σ x1).2 τ)) := by
  refine m_start (by decide +kernel) (Nat.le_of_ble_eq_true rfl) rfl (fun p e s m args below meth c ls X I hl => ?_)
  have hl : lv_has ls 2 [(0, .ref (G.2.1 123)), (1, .int x1)] := hl
  obtain ⟨E, hE⟩ : ∃ E, E = (f12_route σ x1) := ⟨_, rfl⟩
  rw [← hE]
  unfold o12_route at ho
  refine lv_aload_n X.1 X.2.1 dX12_route_0 rfl (lv_at hl 0 rfl) ?_
  refine g12_25 X I (k := 123) (by decide) rfl lf_X12_264 dX12_route_1 ?_
  refine lv_if_eq (tgt := 16) X.1 X.2.1 dX12_route_4 (by decide) (fun c_1 => ?_) (fun c_1 => ?_)
  · skip
    have hE := ite_t hE c_1
    have ho := ite_tP ho c_1
    refine lv_iconst (v := (-1)) X.1 X.2.1 dX12_route_16 (by decide) ?_
    have h9 := hE
    exact r_iret X I (e_i (pr_fst h9) (pr_snd h9) rfl) dX12_route_17
  · skip
    have hE := ite_f hE c_1
    have ho := ite_fP ho c_1
    refine lv_iload_n X.1 X.2.1 dX12_route_7 rfl (lv_at hl 1 rfl) ?_
    refine lv_iconst (v := 0) X.1 X.2.1 dX12_route_8 (by decide) ?_
    refine lv_iconst (v := 2) X.1 X.2.1 dX12_route_9 (by decide) ?_
    refine r_ei I (r_runS X I pk_X12_in (c12_in l G _ _ _ _ _) lm_X12_220 rfl hl.1 rfl (Nat.le_of_ble_eq_true rfl) dX12_route_10 ⟨Nat.le_of_ble_eq_true rfl, Nat.le_of_ble_eq_true rfl⟩ ⟨Nat.le_refl 0, Nat.le_refl 0⟩) (fun H locs I => ?_)
    refine lv_if_ne (tgt := 18) X.1 X.2.1 dX12_route_13 (by decide) (fun c_2 => ?_) (fun c_2 => ?_)
    · skip
      have hE := ite_t hE (b2i_y c_2)
      have ho := ite_tP ho (b2i_y c_2)
      refine lv_aload_n X.1 X.2.1 dX12_route_18 rfl (lv_at hl 0 rfl) ?_
      refine lv_iconst (v := (-1)) X.1 X.2.1 dX12_route_19 (by decide) ?_
      refine p12_36 X I (k := 123) (by decide) rfl lf_X12_373 dX12_route_20 (fun H locs I => ?_)
      refine lv_aload_n X.1 X.2.1 dX12_route_23 rfl (lv_at hl 0 rfl) ?_
      refine lv_iconst (v := 0) X.1 X.2.1 dX12_route_24 (by decide) ?_
      refine p12_37 X I (k := 123) (by decide) rfl lf_X12_376 dX12_route_25 (fun H locs I => ?_)
      refine lv_aload_n X.1 X.2.1 dX12_route_28 rfl (lv_at hl 0 rfl) ?_
      refine lv_iconst (v := 0) X.1 X.2.1 dX12_route_29 (by decide) ?_
      refine p12_35 X I (k := 123) (by decide) rfl lf_X12_379 dX12_route_30 (fun H locs I => ?_)
      refine lv_aload_n X.1 X.2.1 dX12_route_33 rfl (lv_at hl 0 rfl) ?_
      refine lv_iconst (v := 0) X.1 X.2.1 dX12_route_34 (by decide) ?_
      refine lv_iconst (v := 0) X.1 X.2.1 dX12_route_35 (by decide) ?_
      refine lv_iconst (v := 0) X.1 X.2.1 dX12_route_36 (by decide) ?_
      have ho1 := ho.1
      have ho := ho.2
      refine r_ev I (r_runV X I pk_X12_tryRoute (c12_tryRouteR l G _ _ _ _ _ ho1) lm_X12_388 (by decide) (cl_12 rfl) rfl rfl rfl hl.1 rfl (Nat.le_of_ble_eq_true rfl) dX12_route_37 ⟨Nat.le_of_ble_eq_true rfl, Nat.le_of_ble_eq_true rfl⟩ ⟨Nat.le_refl 0, Nat.le_refl 0⟩) (fun H locs I => ?_)
      refine lv_iload_n X.1 X.2.1 dX12_route_40 rfl (lv_at hl 1 rfl) ?_
      refine lv_if_ne (tgt := 62) X.1 X.2.1 dX12_route_41 (by decide) (fun c_3 => ?_) (fun c_3 => ?_)
      · skip
        have hE := ite_f hE c_3
        have ho := ite_fP ho c_3
        refine lv_iload_n X.1 X.2.1 dX12_route_62 rfl (lv_at hl 1 rfl) ?_
        refine lv_iconst (v := 1) X.1 X.2.1 dX12_route_63 (by decide) ?_
        refine lv_icmp_ne (tgt := 74) X.1 X.2.1 dX12_route_64 (by decide) (fun c_4 => ?_) (fun c_4 => ?_)
        · skip
          have hE := ite_f hE c_4
          have ho := ite_fP ho c_4
          refine lv_aload_n X.1 X.2.1 dX12_route_74 rfl (lv_at hl 0 rfl) ?_
          refine g12_38 X I (k := 123) (by decide) rfl lf_X12_382 dX12_route_75 ?_
          have h9 := hE
          exact r_iret X I (e_i (pr_fst h9) (pr_snd h9) rfl) dX12_route_78
        · skip
          have hE := ite_t hE c_4
          have ho := ite_tP ho c_4
          refine lv_aload_n X.1 X.2.1 dX12_route_67 rfl (lv_at hl 0 rfl) ?_
          refine g12_36 X I (k := 123) (by decide) rfl lf_X12_373 dX12_route_68 ?_
          refine lv_goto (tgt := 78) X.1 X.2.1 dX12_route_71 (by decide) ?_
          have h9 := hE
          exact r_iret X I (e_i (pr_fst h9) (pr_snd h9) rfl) dX12_route_78
      · skip
        have hE := ite_t hE c_3
        have ho := ite_tP ho c_3
        refine lv_aload_n X.1 X.2.1 dX12_route_44 rfl (lv_at hl 0 rfl) ?_
        refine g12_37 X I (k := 123) (by decide) rfl lf_X12_376 dX12_route_45 ?_
        refine lv_if_ne (tgt := 55) X.1 X.2.1 dX12_route_48 (by decide) (fun c_5 => ?_) (fun c_5 => ?_)
        · skip
          have hE := ite_f hE c_5
          have ho := ite_fP ho c_5
          refine lv_aload_n X.1 X.2.1 dX12_route_55 rfl (lv_at hl 0 rfl) ?_
          refine g12_35 X I (k := 123) (by decide) rfl lf_X12_379 dX12_route_56 ?_
          refine lv_goto (tgt := 78) X.1 X.2.1 dX12_route_59 (by decide) ?_
          have h9 := hE
          exact r_iret X I (e_i (pr_fst h9) (pr_snd h9) rfl) dX12_route_78
        · skip
          have hE := ite_t hE c_5
          have ho := ite_tP ho c_5
          refine lv_iconst (v := (-1)) X.1 X.2.1 dX12_route_51 (by decide) ?_
          refine lv_goto (tgt := 78) X.1 X.2.1 dX12_route_52 (by decide) ?_
          have h9 := hE
          exact r_iret X I (e_i (pr_fst h9) (pr_snd h9) rfl) dX12_route_78
    · skip
      have hE := ite_f hE (b2i_n c_2)
      have ho := ite_fP ho (b2i_n c_2)
      refine lv_iconst (v := (-1)) X.1 X.2.1 dX12_route_16 (by decide) ?_
      have h9 := hE
      exact r_iret X I (e_i (pr_fst h9) (pr_snd h9) rfl) dX12_route_17
noncomputable def f12_griefOf (σ : SI) (x1 : Int32) (x2 : Bool) : Int32 := if x2 = true then (f12_of σ x1 (2 : Int32)) else (σ 140 (Int32.toNatClampNeg ((0 : Int32) + x1)))
noncomputable def o12_griefOf (σ : SI) (x1 : Int32) (x2 : Bool) : Prop := if x2 = true then ((o12_of σ x1 (2 : Int32)) ∧ True) else ((vp_in ((0 : Int32) + x1) 255) ∧ True)
set_option maxHeartbeats 4000000 in
set_option maxRecDepth 100000 in
theorem c12_griefOf (l : Launch) (G : GT) (σ : SI) (τ : SL) (x1 : Int32) (x2 : Bool) (ho : o12_griefOf σ x1 x2) : Mc l yX12_griefOf cX12_griefOf 3 (some .int) 1 G [.ref (G.2.1 123), .int x1, .int (b2i x2)] σ τ (Qi G (Ei (f12_griefOf σ x1 x2) σ τ)) := by
  refine m_start (by decide +kernel) (Nat.le_of_ble_eq_true rfl) rfl (fun p e s m args below meth c ls X I hl => ?_)
  have hl : lv_has ls 3 [(0, .ref (G.2.1 123)), (1, .int x1), (2, .int (b2i x2))] := hl
  obtain ⟨E, hE⟩ : ∃ E, E = (f12_griefOf σ x1 x2) := ⟨_, rfl⟩
  rw [← hE]
  unfold o12_griefOf at ho
  refine lv_iload_n X.1 X.2.1 dX12_griefOf_0 rfl (lv_at hl 2 rfl) ?_
  refine lv_if_eq (tgt := 13) X.1 X.2.1 dX12_griefOf_1 (by decide) (fun c_1 => ?_) (fun c_1 => ?_)
  · skip
    have hE := ite_f hE (b2i_n c_1)
    have ho := ite_fP ho (b2i_n c_1)
    refine lv_aload_n X.1 X.2.1 dX12_griefOf_13 rfl (lv_at hl 0 rfl) ?_
    refine g12_27 X I (k := 123) (by decide) rfl lf_X12_58 dX12_griefOf_14 ?_
    refine lv_iconst (v := 0) X.1 X.2.1 dX12_griefOf_17 (by decide) ?_
    refine lv_iload_n X.1 X.2.1 dX12_griefOf_18 rfl (lv_at hl 1 rfl) ?_
    refine lv_iadd X.1 X.2.1 dX12_griefOf_19 ?_
    have ho1 := ho.1
    have ho := ho.2
    refine r_ald X I (k := 140) (n := 255) (by decide) rfl ho1 dX12_griefOf_20 ?_
    have h9 := hE
    exact r_iret X I (e_i h9.symm rfl rfl) dX12_griefOf_21
  · skip
    have hE := ite_t hE (b2i_y c_1)
    have ho := ite_tP ho (b2i_y c_1)
    refine lv_aload_n X.1 X.2.1 dX12_griefOf_4 rfl (lv_at hl 0 rfl) ?_
    refine lv_iload_n X.1 X.2.1 dX12_griefOf_5 rfl (lv_at hl 1 rfl) ?_
    refine lv_iconst (v := 2) X.1 X.2.1 dX12_griefOf_6 (by decide) ?_
    have ho2 := ho.1
    have ho := ho.2
    refine r_ei I (r_runV X I pk_X12_of (c12_of l G _ _ _ _ ho2) lm_X12_270 (by decide) (cl_12 rfl) rfl rfl rfl hl.1 rfl (Nat.le_of_ble_eq_true rfl) dX12_griefOf_7 ⟨Nat.le_of_ble_eq_true rfl, Nat.le_of_ble_eq_true rfl⟩ ⟨Nat.le_refl 0, Nat.le_refl 0⟩) (fun H locs I => ?_)
    refine lv_goto (tgt := 21) X.1 X.2.1 dX12_griefOf_10 (by decide) ?_
    have h9 := hE
    exact r_iret X I (e_i h9.symm rfl rfl) dX12_griefOf_21
noncomputable def f12_layOrder_c19 (σ : SI) (x1 : Bool) (x2 : Int32) (x3 : Int32) (x4 : Int32) (K : Int32 → Int32 → (Int32 × SI)) : Nat → Int32 → Int32 → (Int32 × SI)
  | 0, v5, v6 => (K v5 v6)
  | fu + 1, v5, v6 => if (σ 123 25) ≤ v6 then (K v5 v6) else (if (f12_has x4 v6) = true then (f12_layOrder_c19 σ x1 x2 x3 x4 K fu v5 (v6 + 1)) else (if (f12_griefOf σ v6 x1) ≤ (0 : Int32) then (f12_layOrder_c19 σ x1 x2 x3 x4 K fu v5 (v6 + 1)) else (if v5 = (-1 : Int32) then (f12_layOrder_c19 σ x1 x2 x3 x4 K fu v6 (v6 + 1)) else (if (f12_griefOf σ v5 x1) ≤ (f12_griefOf σ v6 x1) then (f12_layOrder_c19 σ x1 x2 x3 x4 K fu v5 (v6 + 1)) else (f12_layOrder_c19 σ x1 x2 x3 x4 K fu v6 (v6 + 1))))))
noncomputable def o12_layOrder_c19 (σ : SI) (x1 : Bool) (x2 : Int32) (x3 : Int32) (x4 : Int32) (oK : Int32 → Int32 → Prop) : Nat → Int32 → Int32 → Prop
  | 0, _, _ => True
  | fu + 1, v5, v6 => if (σ 123 25) ≤ v6 then (oK v5 v6) else (if (f12_has x4 v6) = true then (o12_layOrder_c19 σ x1 x2 x3 x4 oK fu v5 (v6 + 1)) else ((o12_griefOf σ v6 x1) ∧ (if (f12_griefOf σ v6 x1) ≤ (0 : Int32) then (o12_layOrder_c19 σ x1 x2 x3 x4 oK fu v5 (v6 + 1)) else (if v5 = (-1 : Int32) then (o12_layOrder_c19 σ x1 x2 x3 x4 oK fu v6 (v6 + 1)) else ((o12_griefOf σ v6 x1) ∧ ((o12_griefOf σ v5 x1) ∧ (if (f12_griefOf σ v5 x1) ≤ (f12_griefOf σ v6 x1) then (o12_layOrder_c19 σ x1 x2 x3 x4 oK fu v5 (v6 + 1)) else (o12_layOrder_c19 σ x1 x2 x3 x4 oK fu v6 (v6 + 1)))))))))
noncomputable def f12_layOrder_c5 (x1 : Bool) (x2 : Int32) : Nat → Int32 → Int32 → SI → (Int32 × SI)
  | 0, _, _, σ => (0, σ)
  | fu + 1, v3, v4, σ => if (σ 123 25) ≤ v3 then (v3, σ) else (f12_layOrder_c19 σ x1 x2 v3 v4 (fun (y1_5 : Int32) (y1_6 : Int32) => if y1_5 = (-1 : Int32) then (v3, σ) else (let s0 := sp σ 144 (Int32.toNatClampNeg v3) y1_5; (f12_layOrder_c5 x1 x2 fu (v3 + 1) (v4 ||| ((1 : Int32) <<< (y1_5 &&& 31))) s0))) (fu1 ((Int32.toInt (σ 123 25) - Int32.toInt (0 : Int32)).toNat)) (-1 : Int32) (0 : Int32))
noncomputable def o12_layOrder_c5 (x1 : Bool) (x2 : Int32) : Nat → Int32 → Int32 → SI → Prop
  | 0, _, _, _ => True
  | fu + 1, v3, v4, σ => if (σ 123 25) ≤ v3 then True else (o12_layOrder_c19 σ x1 x2 v3 v4 (fun (y1_5 : Int32) (y1_6 : Int32) => if y1_5 = (-1 : Int32) then True else ((vp_in v3 7) ∧ (let s0 := sp σ 144 (Int32.toNatClampNeg v3) y1_5; (o12_layOrder_c5 x1 x2 fu (v3 + 1) (v4 ||| ((1 : Int32) <<< (y1_5 &&& 31))) s0)))) (fu1 ((Int32.toInt (σ 123 25) - Int32.toInt (0 : Int32)).toNat)) (-1 : Int32) (0 : Int32))
noncomputable def f12_layOrder (σ : SI) (x1 : Bool) (x2 : Int32) : Int32 × SI := (f12_layOrder_c5 x1 x2 (fu1 ((Int32.toInt (σ 123 25) - Int32.toInt (0 : Int32)).toNat)) (0 : Int32) x2 σ)
noncomputable def o12_layOrder (σ : SI) (x1 : Bool) (x2 : Int32) : Prop := (o12_layOrder_c5 x1 x2 (fu1 ((Int32.toInt (σ 123 25) - Int32.toInt (0 : Int32)).toNat)) (0 : Int32) x2 σ)
theorem w_f12_layOrder_c19 (x1 : Bool) (x2 : Int32) (x3 : Int32) (x4 : Int32) (σ : SI) {K : Int32 → Int32 → (Int32 × SI)} (a : Nat) (h0 : a ≠ 144) (hK : ∀ (v5 : Int32) (v6 : Int32), (K v5 v6).2 a = σ a) : ∀ (fu : Nat) (v5 : Int32) (v6 : Int32), (f12_layOrder_c19 σ x1 x2 x3 x4 K fu v5 v6).2 a = σ a := by
  intro fu
  induction fu with
  | zero => intro v5 v6; exact hK v5 v6
  | succ fu ih =>
    intro v5 v6
    refine fp_to2 ?_
    unfold f12_layOrder_c19
    exact (fr_ite2 (fp_of2 ((hK _ _))) (fr_ite2 (fp_of2 ((ih _ _))) (fr_ite2 (fp_of2 ((ih _ _))) (fr_ite2 (fp_of2 ((ih _ _))) (fr_ite2 (fp_of2 ((ih _ _))) (fp_of2 ((ih _ _))))))))
theorem w_f12_layOrder_c5 (x1 : Bool) (x2 : Int32) (a : Nat) (h0 : a ≠ 144) : ∀ (fu : Nat) (v3 : Int32) (v4 : Int32) (σ : SI), (f12_layOrder_c5 x1 x2 fu v3 v4 σ).2 a = σ a := by
  intro fu
  induction fu with
  | zero => intro v3 v4 σ; exact rfl
  | succ fu ih =>
    intro v3 v4 σ
    refine fp_to2 ?_
    unfold f12_layOrder_c5
    exact (fr_ite2 (fr_mk21 rfl) (fp_of2 ((w_f12_layOrder_c19 _ _ _ _ _ a h0 (fun y1_5 y1_6 => (fp_to2 ((fr_ite2 (fr_mk21 rfl) (fp_of2 (((ih _ _ _).trans (sp_n h0)))))))) _ _ _))))
theorem w_f12_layOrder (σ : SI) (x1 : Bool) (x2 : Int32) (a : Nat) (h0 : a ≠ 144) : (f12_layOrder σ x1 x2).2 a = σ a := by
  refine fp_to2 ?_
  unfold f12_layOrder
  exact (fp_of2 ((w_f12_layOrder_c5 _ _ a h0 _ _ _ _)))
set_option maxHeartbeats 4000000 in
set_option maxRecDepth 100000 in
theorem c12_layOrder_c19 {l : Launch} {p : Program} {e : Env} {s : State} {m : MethodId} {args : Array Value} {below : List Frame} {meth : Method} {c : Code} {G : GT} (X : CX p s m args meth c cX12_layOrder RX12 8 (some .int) G) {E : Int32 × SI} (σ : SI) (τ : SL) (x1 : Bool) (x2 : Int32) (x3 : Int32) (x4 : Int32) {oK : Int32 → Int32 → Prop} {K : Int32 → Int32 → (Int32 × SI)} (hK : ∀ (v5 : Int32) (v6 : Int32) (H : Heap) (locs : List Loc) (ls : Array Slot), IX G s H locs σ τ → lv_has ls 8 [(0, .ref (G.2.1 123)), (1, .int (b2i x1)), (2, .int x2), (3, .int x3), (4, .int x4), (5, .int v5), (6, .int v6)] → oK v5 v6 → E = K v5 v6 → W p l e (rmN 2) s m args below meth c H locs 0 0 (MQ below ((Qi G (Ei E.1 E.2 τ)) s.heap.size) args s 0 0 (AW G s.heap.size)) (F0 m 98 ls [])) : ∀ (fu : Nat) (v5 : Int32) (v6 : Int32) (H : Heap) (locs : List Loc) (ls : Array Slot), IX G s H locs σ τ → lv_has ls 8 [(0, .ref (G.2.1 123)), (1, .int (b2i x1)), (2, .int x2), (3, .int x3), (4, .int x4), (5, .int v5), (6, .int v6)] → (o12_layOrder_c19 σ x1 x2 x3 x4 oK fu v5 v6) → (Int32.toInt (σ 123 25) - Int32.toInt v6).toNat < fu → E = (f12_layOrder_c19 σ x1 x2 x3 x4 K fu v5 v6) → W p l e (rmN 2) s m args below meth c H locs 0 0 (MQ below ((Qi G (Ei E.1 E.2 τ)) s.heap.size) args s 0 0 (AW G s.heap.size)) (F0 m 19 ls []) := by
  intro fu
  induction fu with
  | zero =>
    intro v5 v6 H locs ls I hl  ho hm hE
    exact absurd hm (Nat.not_lt_zero _)
  | succ fu ih =>
    intro v5 v6 H locs ls I hl  ho hm hE
    unfold o12_layOrder_c19 at ho
    refine lv_iload X.1 X.2.1 dX12_layOrder_19 (lv_at hl 6 rfl) ?_
    refine lv_aload_n X.1 X.2.1 dX12_layOrder_21 rfl (lv_at hl 0 rfl) ?_
    refine g12_25 X I (k := 123) (by decide) rfl lf_X12_264 dX12_layOrder_22 ?_
    refine lv_icmp_ge (tgt := 98) X.1 X.2.1 dX12_layOrder_25 (by decide) (fun c_2 => ?_) (fun c_2 => ?_)
    · skip
      have hE := ite_t hE c_2
      have ho := ite_tP ho c_2
      exact hK _ _ _ _ _ I (lv_sub hl [0, 1, 2, 3, 4, 5, 6] rfl) ho (hE.trans (rfl))
    · skip
      have hE := ite_f hE c_2
      have ho := ite_fP ho c_2
      refine lv_iload X.1 X.2.1 dX12_layOrder_28 (lv_at hl 4 rfl) ?_
      refine lv_iload X.1 X.2.1 dX12_layOrder_30 (lv_at hl 6 rfl) ?_
      refine r_ei I (r_runS X I pk_X12_has (c12_has l G _ _ _ _) lm_X12_231 rfl hl.1 rfl (Nat.le_of_ble_eq_true rfl) dX12_layOrder_32 ⟨Nat.le_of_ble_eq_true rfl, Nat.le_of_ble_eq_true rfl⟩ ⟨Nat.le_refl 0, Nat.le_refl 0⟩) (fun H locs I => ?_)
      refine lv_if_ne (tgt := 52) X.1 X.2.1 dX12_layOrder_35 (by decide) (fun c_3 => ?_) (fun c_3 => ?_)
      · skip
        have hE := ite_t hE (b2i_y c_3)
        have ho := ite_tP ho (b2i_y c_3)
        refine lv_iconst (v := 0) X.1 X.2.1 dX12_layOrder_52 (by decide) ?_
        refine lv_istore (lv' := [(7, .int _), (0, .ref _), (1, .int _), (2, .int _), (3, .int _), (4, .int _), (5, .int _), (6, .int _)]) X.1 X.2.1 dX12_layOrder_53 hl (by decide) rfl (fun ls hl => ?_)
        refine lv_iload X.1 X.2.1 dX12_layOrder_55 (lv_at hl 0 rfl) ?_
        refine lv_if_eq (tgt := 88) X.1 X.2.1 dX12_layOrder_57 (by decide) (fun c_4 => ?_) (fun c_4 => ?_)
        · skip
          refine lv_iload X.1 X.2.1 dX12_layOrder_88 (lv_at hl 6 rfl) ?_
          refine lv_istore (lv' := [(5, .int _), (7, .int _), (0, .ref _), (1, .int _), (2, .int _), (3, .int _), (4, .int _), (6, .int _)]) X.1 X.2.1 dX12_layOrder_90 hl (by decide) rfl (fun ls hl => ?_)
          refine lv_iinc (v := _ + 1) (lv' := [(6, .int _), (5, .int _), (7, .int _), (0, .ref _), (1, .int _), (2, .int _), (3, .int _), (4, .int _)]) X.1 X.2.1 dX12_layOrder_92 hl (k := 7) rfl rfl (by decide) rfl (fun ls hl => ?_)
          refine lv_goto (tgt := 19) X.1 X.2.1 dX12_layOrder_95 (by decide) ?_
          exact ih _ _ _ _ _ I (lv_sub hl [3, 4, 5, 6, 7, 1, 0] rfl) ho (Nat.lt_of_lt_of_le (up_dec c_2) (Nat.le_of_lt_succ hm)) (hE.trans (rfl))
        · exact absurd c_4 (by decide)
      · skip
        have hE := ite_f hE (b2i_n c_3)
        have ho := ite_fP ho (b2i_n c_3)
        refine lv_aload_n X.1 X.2.1 dX12_layOrder_38 rfl (lv_at hl 0 rfl) ?_
        refine lv_iload X.1 X.2.1 dX12_layOrder_39 (lv_at hl 6 rfl) ?_
        refine lv_iload_n X.1 X.2.1 dX12_layOrder_41 rfl (lv_at hl 1 rfl) ?_
        have ho1 := ho.1
        have ho := ho.2
        refine r_ei I (r_runV X I pk_X12_griefOf (c12_griefOf l G _ _ _ _ ho1) lm_X12_395 (by decide) (cl_12 rfl) rfl rfl rfl hl.1 rfl (Nat.le_of_ble_eq_true rfl) dX12_layOrder_42 ⟨Nat.le_of_ble_eq_true rfl, Nat.le_of_ble_eq_true rfl⟩ ⟨Nat.le_refl 0, Nat.le_refl 0⟩) (fun H locs I => ?_)
        refine lv_if_le (tgt := 52) X.1 X.2.1 dX12_layOrder_45 (by decide) (fun c_5 => ?_) (fun c_5 => ?_)
        · skip
          have hE := ite_t hE c_5
          have ho := ite_tP ho c_5
          refine lv_iconst (v := 0) X.1 X.2.1 dX12_layOrder_52 (by decide) ?_
          refine lv_istore (lv' := [(7, .int _), (0, .ref _), (1, .int _), (2, .int _), (3, .int _), (4, .int _), (5, .int _), (6, .int _)]) X.1 X.2.1 dX12_layOrder_53 hl (by decide) rfl (fun ls hl => ?_)
          refine lv_iload X.1 X.2.1 dX12_layOrder_55 (lv_at hl 0 rfl) ?_
          refine lv_if_eq (tgt := 88) X.1 X.2.1 dX12_layOrder_57 (by decide) (fun c_6 => ?_) (fun c_6 => ?_)
          · skip
            refine lv_iload X.1 X.2.1 dX12_layOrder_88 (lv_at hl 6 rfl) ?_
            refine lv_istore (lv' := [(5, .int _), (7, .int _), (0, .ref _), (1, .int _), (2, .int _), (3, .int _), (4, .int _), (6, .int _)]) X.1 X.2.1 dX12_layOrder_90 hl (by decide) rfl (fun ls hl => ?_)
            refine lv_iinc (v := _ + 1) (lv' := [(6, .int _), (5, .int _), (7, .int _), (0, .ref _), (1, .int _), (2, .int _), (3, .int _), (4, .int _)]) X.1 X.2.1 dX12_layOrder_92 hl (k := 7) rfl rfl (by decide) rfl (fun ls hl => ?_)
            refine lv_goto (tgt := 19) X.1 X.2.1 dX12_layOrder_95 (by decide) ?_
            exact ih _ _ _ _ _ I (lv_sub hl [3, 4, 5, 6, 7, 1, 0] rfl) ho (Nat.lt_of_lt_of_le (up_dec c_2) (Nat.le_of_lt_succ hm)) (hE.trans (rfl))
          · exact absurd c_6 (by decide)
        · skip
          have hE := ite_f hE c_5
          have ho := ite_fP ho c_5
          refine lv_iconst (v := 1) X.1 X.2.1 dX12_layOrder_48 (by decide) ?_
          refine lv_goto (tgt := 53) X.1 X.2.1 dX12_layOrder_49 (by decide) ?_
          refine lv_istore (lv' := [(7, .int _), (0, .ref _), (1, .int _), (2, .int _), (3, .int _), (4, .int _), (5, .int _), (6, .int _)]) X.1 X.2.1 dX12_layOrder_53 hl (by decide) rfl (fun ls hl => ?_)
          refine lv_iload X.1 X.2.1 dX12_layOrder_55 (lv_at hl 0 rfl) ?_
          refine lv_if_eq (tgt := 88) X.1 X.2.1 dX12_layOrder_57 (by decide) (fun c_7 => ?_) (fun c_7 => ?_)
          · exact absurd c_7 (by decide)
          · skip
            refine lv_iload X.1 X.2.1 dX12_layOrder_60 (lv_at hl 6 rfl) ?_
            refine lv_iconst (v := (-1)) X.1 X.2.1 dX12_layOrder_62 (by decide) ?_
            refine lv_icmp_eq (tgt := 83) X.1 X.2.1 dX12_layOrder_63 (by decide) (fun c_8 => ?_) (fun c_8 => ?_)
            · skip
              have hE := ite_t hE c_8
              have ho := ite_tP ho c_8
              refine lv_iload X.1 X.2.1 dX12_layOrder_83 (lv_at hl 7 rfl) ?_
              refine lv_goto (tgt := 90) X.1 X.2.1 dX12_layOrder_85 (by decide) ?_
              refine lv_istore (lv' := [(5, .int _), (7, .int _), (0, .ref _), (1, .int _), (2, .int _), (3, .int _), (4, .int _), (6, .int _)]) X.1 X.2.1 dX12_layOrder_90 hl (by decide) rfl (fun ls hl => ?_)
              refine lv_iinc (v := _ + 1) (lv' := [(6, .int _), (5, .int _), (7, .int _), (0, .ref _), (1, .int _), (2, .int _), (3, .int _), (4, .int _)]) X.1 X.2.1 dX12_layOrder_92 hl (k := 7) rfl rfl (by decide) rfl (fun ls hl => ?_)
              refine lv_goto (tgt := 19) X.1 X.2.1 dX12_layOrder_95 (by decide) ?_
              exact ih _ _ _ _ _ I (lv_sub hl [3, 4, 5, 6, 7, 1, 0] rfl) ho (Nat.lt_of_lt_of_le (up_dec c_2) (Nat.le_of_lt_succ hm)) (hE.trans (rfl))
            · skip
              have hE := ite_f hE c_8
              have ho := ite_fP ho c_8
              refine lv_aload_n X.1 X.2.1 dX12_layOrder_66 rfl (lv_at hl 1 rfl) ?_
              refine lv_iload X.1 X.2.1 dX12_layOrder_67 (lv_at hl 7 rfl) ?_
              refine lv_iload_n X.1 X.2.1 dX12_layOrder_69 rfl (lv_at hl 2 rfl) ?_
              have ho2 := ho.1
              have ho := ho.2
              refine r_ei I (r_runV X I pk_X12_griefOf (c12_griefOf l G _ _ _ _ ho2) lm_X12_395 (by decide) (cl_12 rfl) rfl rfl rfl hl.1 rfl (Nat.le_of_ble_eq_true rfl) dX12_layOrder_70 ⟨Nat.le_of_ble_eq_true rfl, Nat.le_of_ble_eq_true rfl⟩ ⟨Nat.le_refl 0, Nat.le_refl 0⟩) (fun H locs I => ?_)
              refine lv_aload_n X.1 X.2.1 dX12_layOrder_73 rfl (lv_at hl 1 rfl) ?_
              refine lv_iload X.1 X.2.1 dX12_layOrder_74 (lv_at hl 6 rfl) ?_
              refine lv_iload_n X.1 X.2.1 dX12_layOrder_76 rfl (lv_at hl 2 rfl) ?_
              have ho3 := ho.1
              have ho := ho.2
              refine r_ei I (r_runV X I pk_X12_griefOf (c12_griefOf l G _ _ _ _ ho3) lm_X12_395 (by decide) (cl_12 rfl) rfl rfl rfl hl.1 rfl (Nat.le_of_ble_eq_true rfl) dX12_layOrder_77 ⟨Nat.le_of_ble_eq_true rfl, Nat.le_of_ble_eq_true rfl⟩ ⟨Nat.le_refl 0, Nat.le_refl 0⟩) (fun H locs I => ?_)
              refine lv_icmp_ge (tgt := 88) X.1 X.2.1 dX12_layOrder_80 (by decide) (fun c_9 => ?_) (fun c_9 => ?_)
              · skip
                have hE := ite_t hE c_9
                have ho := ite_tP ho c_9
                refine lv_iload X.1 X.2.1 dX12_layOrder_88 (lv_at hl 6 rfl) ?_
                refine lv_istore (lv' := [(5, .int _), (7, .int _), (0, .ref _), (1, .int _), (2, .int _), (3, .int _), (4, .int _), (6, .int _)]) X.1 X.2.1 dX12_layOrder_90 hl (by decide) rfl (fun ls hl => ?_)
                refine lv_iinc (v := _ + 1) (lv' := [(6, .int _), (5, .int _), (7, .int _), (0, .ref _), (1, .int _), (2, .int _), (3, .int _), (4, .int _)]) X.1 X.2.1 dX12_layOrder_92 hl (k := 7) rfl rfl (by decide) rfl (fun ls hl => ?_)
                refine lv_goto (tgt := 19) X.1 X.2.1 dX12_layOrder_95 (by decide) ?_
                exact ih _ _ _ _ _ I (lv_sub hl [3, 4, 5, 6, 7, 1, 0] rfl) ho (Nat.lt_of_lt_of_le (up_dec c_2) (Nat.le_of_lt_succ hm)) (hE.trans (rfl))
              · skip
                have hE := ite_f hE c_9
                have ho := ite_fP ho c_9
                refine lv_iload X.1 X.2.1 dX12_layOrder_83 (lv_at hl 7 rfl) ?_
                refine lv_goto (tgt := 90) X.1 X.2.1 dX12_layOrder_85 (by decide) ?_
                refine lv_istore (lv' := [(5, .int _), (7, .int _), (0, .ref _), (1, .int _), (2, .int _), (3, .int _), (4, .int _), (6, .int _)]) X.1 X.2.1 dX12_layOrder_90 hl (by decide) rfl (fun ls hl => ?_)
                refine lv_iinc (v := _ + 1) (lv' := [(6, .int _), (5, .int _), (7, .int _), (0, .ref _), (1, .int _), (2, .int _), (3, .int _), (4, .int _)]) X.1 X.2.1 dX12_layOrder_92 hl (k := 7) rfl rfl (by decide) rfl (fun ls hl => ?_)
                refine lv_goto (tgt := 19) X.1 X.2.1 dX12_layOrder_95 (by decide) ?_
                exact ih _ _ _ _ _ I (lv_sub hl [3, 4, 5, 6, 7, 1, 0] rfl) ho (Nat.lt_of_lt_of_le (up_dec c_2) (Nat.le_of_lt_succ hm)) (hE.trans (rfl))
set_option maxHeartbeats 4000000 in
set_option maxRecDepth 100000 in
theorem c12_layOrder_c5 {l : Launch} {p : Program} {e : Env} {s : State} {m : MethodId} {args : Array Value} {below : List Frame} {meth : Method} {c : Code} {G : GT} (X : CX p s m args meth c cX12_layOrder RX12 8 (some .int) G) {E : Int32 × SI} (τ : SL) (x1 : Bool) (x2 : Int32) : ∀ (fu : Nat) (v3 : Int32) (v4 : Int32) (σ : SI) (H : Heap) (locs : List Loc) (ls : Array Slot), IX G s H locs σ τ → lv_has ls 8 [(0, .ref (G.2.1 123)), (1, .int (b2i x1)), (2, .int x2), (3, .int v3), (4, .int v4)] → (o12_layOrder_c5 x1 x2 fu v3 v4 σ) → (Int32.toInt (σ 123 25) - Int32.toInt v3).toNat < fu → E = (f12_layOrder_c5 x1 x2 fu v3 v4 σ) → W p l e (rmN 2) s m args below meth c H locs 0 0 (MQ below ((Qi G (Ei E.1 E.2 τ)) s.heap.size) args s 0 0 (AW G s.heap.size)) (F0 m 5 ls []) := by
  intro fu
  induction fu with
  | zero =>
    intro v3 v4 σ H locs ls I hl  ho hm hE
    exact absurd hm (Nat.not_lt_zero _)
  | succ fu ih =>
    intro v3 v4 σ H locs ls I hl  ho hm hE
    unfold o12_layOrder_c5 at ho
    refine lv_iload_n X.1 X.2.1 dX12_layOrder_5 rfl (lv_at hl 3 rfl) ?_
    refine lv_aload_n X.1 X.2.1 dX12_layOrder_6 rfl (lv_at hl 0 rfl) ?_
    refine g12_25 X I (k := 123) (by decide) rfl lf_X12_264 dX12_layOrder_7 ?_
    refine lv_icmp_ge (tgt := 129) X.1 X.2.1 dX12_layOrder_10 (by decide) (fun c_1 => ?_) (fun c_1 => ?_)
    · skip
      have hE := ite_t hE c_1
      have ho := ite_tP ho c_1
      refine lv_iload_n X.1 X.2.1 dX12_layOrder_129 rfl (lv_at hl 3 rfl) ?_
      have h9 := hE
      exact r_iret X I (e_i (pr_fst h9) (pr_snd h9) rfl) dX12_layOrder_130
    · skip
      have hE := ite_f hE c_1
      have ho := ite_fP ho c_1
      refine lv_iconst (v := (-1)) X.1 X.2.1 dX12_layOrder_13 (by decide) ?_
      refine lv_istore (lv' := [(5, .int _), (0, .ref _), (1, .int _), (2, .int _), (3, .int _), (4, .int _)]) X.1 X.2.1 dX12_layOrder_14 hl (by decide) rfl (fun ls hl => ?_)
      refine lv_iconst (v := 0) X.1 X.2.1 dX12_layOrder_16 (by decide) ?_
      refine lv_istore (lv' := [(6, .int _), (5, .int _), (0, .ref _), (1, .int _), (2, .int _), (3, .int _), (4, .int _)]) X.1 X.2.1 dX12_layOrder_17 hl (by decide) rfl (fun ls hl => ?_)
      refine c12_layOrder_c19 X _ _ _ _ _ _ (fun y1_5 y1_6 H locs ls I hl ho hE => ?_) _ _ _ _ _ _ I (lv_sub hl [2, 3, 4, 5, 6, 1, 0] rfl) ho (fu1_lt _) (hE.trans (rfl))
      refine lv_iload X.1 X.2.1 dX12_layOrder_98 (lv_at hl 5 rfl) ?_
      refine lv_iconst (v := (-1)) X.1 X.2.1 dX12_layOrder_100 (by decide) ?_
      refine lv_icmp_ne (tgt := 106) X.1 X.2.1 dX12_layOrder_101 (by decide) (fun c_10 => ?_) (fun c_10 => ?_)
      · skip
        have hE := ite_f hE c_10
        have ho := ite_fP ho c_10
        refine lv_iload X.1 X.2.1 dX12_layOrder_106 (lv_at hl 4 rfl) ?_
        refine lv_iconst (v := 1) X.1 X.2.1 dX12_layOrder_108 (by decide) ?_
        refine lv_iload X.1 X.2.1 dX12_layOrder_109 (lv_at hl 5 rfl) ?_
        refine lv_ishl X.1 X.2.1 dX12_layOrder_111 ?_
        refine lv_ior X.1 X.2.1 dX12_layOrder_112 ?_
        refine lv_istore (lv' := [(4, .int _), (0, .ref _), (1, .int _), (2, .int _), (3, .int _), (5, .int _), (6, .int _)]) X.1 X.2.1 dX12_layOrder_113 hl (by decide) rfl (fun ls hl => ?_)
        refine lv_aload_n X.1 X.2.1 dX12_layOrder_115 rfl (lv_at hl 1 rfl) ?_
        refine g12_39 X I (k := 123) (by decide) rfl lf_X12_77 dX12_layOrder_116 ?_
        refine lv_iload_n X.1 X.2.1 dX12_layOrder_119 rfl (lv_at hl 4 rfl) ?_
        refine lv_iload X.1 X.2.1 dX12_layOrder_120 (lv_at hl 5 rfl) ?_
        have ho4 := ho.1
        have ho := ho.2
        refine r_ast X I (k := 144) (n := 7) (by decide) rfl ho4 dX12_layOrder_122 (fun H locs I => ?_)
        refine lv_iinc (v := _ + 1) (lv' := [(3, .int _), (4, .int _), (0, .ref _), (1, .int _), (2, .int _), (5, .int _), (6, .int _)]) X.1 X.2.1 dX12_layOrder_123 hl (k := 4) rfl rfl (by decide) rfl (fun ls hl => ?_)
        refine lv_goto (tgt := 5) X.1 X.2.1 dX12_layOrder_126 (by decide) ?_
        exact ih _ _ _ _ _ _ I (lv_sub hl [2, 3, 4, 0, 1] rfl) ho (Nat.lt_of_lt_of_le (dec_c (by first | with_reducible rfl | simp [sp_n]) (up_dec c_1)) (Nat.le_of_lt_succ hm)) (hE.trans (rfl))
      · skip
        have hE := ite_t hE c_10
        have ho := ite_tP ho c_10
        refine lv_iload_n X.1 X.2.1 dX12_layOrder_104 rfl (lv_at hl 3 rfl) ?_
        have h9 := hE
        exact r_iret X I (e_i (pr_fst h9) (pr_snd h9) rfl) dX12_layOrder_105
set_option maxHeartbeats 4000000 in
set_option maxRecDepth 100000 in
theorem c12_layOrder (l : Launch) (G : GT) (σ : SI) (τ : SL) (x1 : Bool) (x2 : Int32) (ho : o12_layOrder σ x1 x2) : Mc l yX12_layOrder cX12_layOrder 8 (some .int) 2 G [.ref (G.2.1 123), .int (b2i x1), .int x2] σ τ (Qi G (Ei (f12_layOrder σ x1 x2).1 (f12_layOrder σ x1 x2).2 τ)) := by
  refine m_start (by decide +kernel) (Nat.le_of_ble_eq_true rfl) rfl (fun p e s m args below meth c ls X I hl => ?_)
  have hl : lv_has ls 8 [(0, .ref (G.2.1 123)), (1, .int (b2i x1)), (2, .int x2)] := hl
  obtain ⟨E, hE⟩ : ∃ E, E = (f12_layOrder σ x1 x2) := ⟨_, rfl⟩
  rw [← hE]
  unfold o12_layOrder at ho
  refine lv_iconst (v := 0) X.1 X.2.1 dX12_layOrder_0 (by decide) ?_
  refine lv_istore_n (lv' := [(3, .int _), (0, .ref _), (1, .int _), (2, .int _)]) X.1 X.2.1 dX12_layOrder_1 rfl hl (by decide) rfl (fun ls hl => ?_)
  refine lv_iload_n X.1 X.2.1 dX12_layOrder_2 rfl (lv_at hl 3 rfl) ?_
  refine lv_istore (lv' := [(4, .int _), (3, .int _), (0, .ref _), (1, .int _), (2, .int _)]) X.1 X.2.1 dX12_layOrder_3 hl (by decide) rfl (fun ls hl => ?_)
  exact c12_layOrder_c5 X _ _ _ _ _ _ _ _ _ _ I (lv_sub hl [2, 3, 4, 1, 0] rfl) ho (fu1_lt _) (hE.trans (rfl))
