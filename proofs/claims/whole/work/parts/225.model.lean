noncomputable def f12_order_c44 (x1 : Int32) (x2 : Int32) : Nat → Int32 → Int32 → Int32 → SI → (Int32 × SI)
  | 0, _, _, _, σ => (0, σ)
  | fu + 1, v3, v4, v5, σ => if x2 ≤ v5 then (let s2 := (f12_takeBack σ (0 : Int32)); if x1 = (1 : Int32) then (v4, s2) else (if x2 = (0 : Int32) then ((-1 : Int32), s2) else (v3, s2))) else (if v4 = v5 then (let r3 := (f12_whyNot σ (σ 144 (Int32.toNatClampNeg v5))); if r3.1 = (-1 : Int32) then (let r4 := (f12_carryNow r3.2 (r3.2 144 (Int32.toNatClampNeg v5))); (f12_order_c44 x1 x2 fu (((10 : Int32) * v3) + (σ 144 (Int32.toNatClampNeg v5))) (v4 + 1) (v5 + 1) r4.2)) else (f12_order_c44 x1 x2 fu (((10 : Int32) * v3) + (σ 144 (Int32.toNatClampNeg v5))) v4 (v5 + 1) r3.2)) else (f12_order_c44 x1 x2 fu (((10 : Int32) * v3) + (σ 144 (Int32.toNatClampNeg v5))) v4 (v5 + 1) σ))
noncomputable def o12_order_c44 (x1 : Int32) (x2 : Int32) : Nat → Int32 → Int32 → Int32 → SI → Prop
  | 0, _, _, _, _ => True
  | fu + 1, v3, v4, v5, σ => if x2 ≤ v5 then ((o12_takeBack σ (0 : Int32)) ∧ (let s2 := (f12_takeBack σ (0 : Int32)); if x1 = (1 : Int32) then True else (if x2 = (0 : Int32) then True else True))) else ((vp_in v5 7) ∧ (if v4 = v5 then ((vp_in v5 7) ∧ ((o12_whyNot σ (σ 144 (Int32.toNatClampNeg v5))) ∧ (let r3 := (f12_whyNot σ (σ 144 (Int32.toNatClampNeg v5))); if r3.1 = (-1 : Int32) then ((vp_in v5 7) ∧ ((o12_carryNow r3.2 (r3.2 144 (Int32.toNatClampNeg v5))) ∧ (let r4 := (f12_carryNow r3.2 (r3.2 144 (Int32.toNatClampNeg v5))); (o12_order_c44 x1 x2 fu (((10 : Int32) * v3) + (σ 144 (Int32.toNatClampNeg v5))) (v4 + 1) (v5 + 1) r4.2)))) else (o12_order_c44 x1 x2 fu (((10 : Int32) * v3) + (σ 144 (Int32.toNatClampNeg v5))) v4 (v5 + 1) r3.2)))) else (o12_order_c44 x1 x2 fu (((10 : Int32) * v3) + (σ 144 (Int32.toNatClampNeg v5))) v4 (v5 + 1) σ)))
noncomputable def f12_order (σ : SI) (x1 : Int32) : Int32 × SI := if (σ 123 25) = (0 : Int32) then ((-1 : Int32), σ) else (if (f12_in x1 (0 : Int32) (1 : Int32)) = true then (let r0 := (f12_layOrder σ false (σ 140 11)); let s1 := (f12_putAside r0.2 (0 : Int32)); (f12_order_c44 x1 r0.1 (fu1 ((Int32.toInt r0.1 - Int32.toInt (0 : Int32)).toNat)) (0 : Int32) (0 : Int32) (0 : Int32) s1)) else ((-1 : Int32), σ))
noncomputable def o12_order (σ : SI) (x1 : Int32) : Prop := if (σ 123 25) = (0 : Int32) then True else (if (f12_in x1 (0 : Int32) (1 : Int32)) = true then ((o12_layOrder σ false (σ 140 11)) ∧ (let r0 := (f12_layOrder σ false (σ 140 11)); (o12_putAside r0.2 (0 : Int32)) ∧ (let s1 := (f12_putAside r0.2 (0 : Int32)); (o12_order_c44 x1 r0.1 (fu1 ((Int32.toInt r0.1 - Int32.toInt (0 : Int32)).toNat)) (0 : Int32) (0 : Int32) (0 : Int32) s1)))) else True)
theorem w_f12_order_c44 (x1 : Int32) (x2 : Int32) (a : Nat) (h0 : a ≠ 132) (h1 : a ≠ 133) (h2 : a ≠ 140) (h3 : a ≠ 143) (h4 : a ≠ 144) : ∀ (fu : Nat) (v3 : Int32) (v4 : Int32) (v5 : Int32) (σ : SI), (f12_order_c44 x1 x2 fu v3 v4 v5 σ).2 a = σ a := by
  intro fu
  induction fu with
  | zero => intro v3 v4 v5 σ; exact rfl
  | succ fu ih =>
    intro v3 v4 v5 σ
    refine fp_to2 ?_
    unfold f12_order_c44
    exact (fr_ite2 (fr_ite2 (fr_mk21 (w_f12_takeBack _ _ a h2)) (fr_ite2 (fr_mk21 (w_f12_takeBack _ _ a h2)) (fr_mk21 (w_f12_takeBack _ _ a h2)))) (fr_ite2 (fr_ite2 (fp_of2 (((ih _ _ _ _).trans ((w_f12_carryNow _ _ a h0 h1 h2).trans (w_f12_whyNot _ _ a h0 h1))))) (fp_of2 (((ih _ _ _ _).trans (w_f12_whyNot _ _ a h0 h1))))) (fp_of2 ((ih _ _ _ _)))))
theorem w_f12_order (σ : SI) (x1 : Int32) (a : Nat) (h0 : a ≠ 132) (h1 : a ≠ 133) (h2 : a ≠ 140) (h3 : a ≠ 143) (h4 : a ≠ 144) : (f12_order σ x1).2 a = σ a := by
  refine fp_to2 ?_
  unfold f12_order
  exact (fr_ite2 (fr_mk21 rfl) (fr_ite2 (fp_of2 (((w_f12_order_c44 _ _ a h0 h1 h2 h3 h4 _ _ _ _ _).trans ((w_f12_putAside _ _ a h3).trans (w_f12_layOrder _ _ _ a h4))))) (fr_mk21 rfl)))
set_option maxHeartbeats 4000000 in
set_option maxRecDepth 100000 in
theorem c12_order_c44 {l : Launch} {p : Program} {e : Env} {s : State} {m : MethodId} {args : Array Value} {below : List Frame} {meth : Method} {c : Code} {G : GT} (X : CX p s m args meth c cX12_order RX12 6 (some .int) G) {E : Int32 × SI} (τ : SL) (x1 : Int32) (x2 : Int32) : ∀ (fu : Nat) (v3 : Int32) (v4 : Int32) (v5 : Int32) (σ : SI) (H : Heap) (locs : List Loc) (ls : Array Slot), IX G s H locs σ τ → lv_has ls 6 [(0, .ref (G.2.1 123)), (1, .int x1), (2, .int x2), (3, .int v3), (4, .int v4), (5, .int v5)] → (o12_order_c44 x1 x2 fu v3 v4 v5 σ) → (Int32.toInt x2 - Int32.toInt v5).toNat < fu → E = (f12_order_c44 x1 x2 fu v3 v4 v5 σ) → W p l e (rmN 10) s m args below meth c H locs 0 0 (MQ below ((Qi G (Ei E.1 E.2 τ)) s.heap.size) args s 0 0 (AW G s.heap.size)) (F0 m 44 ls []) := by
  intro fu
  induction fu with
  | zero =>
    intro v3 v4 v5 σ H locs ls I hl  ho hm hE
    exact absurd hm (Nat.not_lt_zero _)
  | succ fu ih =>
    intro v3 v4 v5 σ H locs ls I hl  ho hm hE
    unfold o12_order_c44 at ho
    refine lv_iload X.1 X.2.1 dX12_order_44 (lv_at hl 5 rfl) ?_
    refine lv_iload_n X.1 X.2.1 dX12_order_46 rfl (lv_at hl 2 rfl) ?_
    refine lv_icmp_ge (tgt := 106) X.1 X.2.1 dX12_order_47 (by decide) (fun c_3 => ?_) (fun c_3 => ?_)
    · skip
      have hE := ite_t hE c_3
      have ho := ite_tP ho c_3
      refine lv_aload_n X.1 X.2.1 dX12_order_106 rfl (lv_at hl 0 rfl) ?_
      refine lv_iconst (v := 0) X.1 X.2.1 dX12_order_107 (by decide) ?_
      have ho3 := ho.1
      have ho := ho.2
      refine r_ev I (r_runV X I pk_X12_takeBack (c12_takeBack l G _ _ _ ho3) lm_X12_392 (by decide) (cl_12 rfl) rfl rfl rfl hl.1 rfl (Nat.le_of_ble_eq_true rfl) dX12_order_108 ⟨Nat.le_of_ble_eq_true rfl, Nat.le_of_ble_eq_true rfl⟩ ⟨Nat.le_refl 0, Nat.le_refl 0⟩) (fun H locs I => ?_)
      refine lv_iload_n X.1 X.2.1 dX12_order_111 rfl (lv_at hl 1 rfl) ?_
      refine lv_iconst (v := 1) X.1 X.2.1 dX12_order_112 (by decide) ?_
      refine lv_icmp_ne (tgt := 121) X.1 X.2.1 dX12_order_113 (by decide) (fun c_4 => ?_) (fun c_4 => ?_)
      · skip
        have hE := ite_f hE c_4
        have ho := ite_fP ho c_4
        refine lv_iload_n X.1 X.2.1 dX12_order_121 rfl (lv_at hl 2 rfl) ?_
        refine lv_if_ne (tgt := 129) X.1 X.2.1 dX12_order_122 (by decide) (fun c_5 => ?_) (fun c_5 => ?_)
        · skip
          have hE := ite_f hE c_5
          have ho := ite_fP ho c_5
          refine lv_iload_n X.1 X.2.1 dX12_order_129 rfl (lv_at hl 3 rfl) ?_
          have h9 := hE
          exact r_iret X I (e_i (pr_fst h9) (pr_snd h9) rfl) dX12_order_130
        · skip
          have hE := ite_t hE c_5
          have ho := ite_tP ho c_5
          refine lv_iconst (v := (-1)) X.1 X.2.1 dX12_order_125 (by decide) ?_
          refine lv_goto (tgt := 130) X.1 X.2.1 dX12_order_126 (by decide) ?_
          have h9 := hE
          exact r_iret X I (e_i (pr_fst h9) (pr_snd h9) rfl) dX12_order_130
      · skip
        have hE := ite_t hE c_4
        have ho := ite_tP ho c_4
        refine lv_iload X.1 X.2.1 dX12_order_116 (lv_at hl 4 rfl) ?_
        refine lv_goto (tgt := 130) X.1 X.2.1 dX12_order_118 (by decide) ?_
        have h9 := hE
        exact r_iret X I (e_i (pr_fst h9) (pr_snd h9) rfl) dX12_order_130
    · skip
      have hE := ite_f hE c_3
      have ho := ite_fP ho c_3
      refine lv_bipush (v := 10) X.1 X.2.1 dX12_order_50 (by decide) ?_
      refine lv_iload_n X.1 X.2.1 dX12_order_52 rfl (lv_at hl 3 rfl) ?_
      refine lv_imul X.1 X.2.1 dX12_order_53 ?_
      refine lv_aload_n X.1 X.2.1 dX12_order_54 rfl (lv_at hl 0 rfl) ?_
      refine g12_39 X I (k := 123) (by decide) rfl lf_X12_77 dX12_order_55 ?_
      refine lv_iload X.1 X.2.1 dX12_order_58 (lv_at hl 5 rfl) ?_
      have ho4 := ho.1
      have ho := ho.2
      refine r_ald X I (k := 144) (n := 7) (by decide) rfl ho4 dX12_order_60 ?_
      refine lv_iadd X.1 X.2.1 dX12_order_61 ?_
      refine lv_istore_n (lv' := [(3, .int _), (0, .ref _), (1, .int _), (2, .int _), (4, .int _), (5, .int _)]) X.1 X.2.1 dX12_order_62 rfl hl (by decide) rfl (fun ls hl => ?_)
      refine lv_iload X.1 X.2.1 dX12_order_63 (lv_at hl 4 rfl) ?_
      refine lv_iload X.1 X.2.1 dX12_order_65 (lv_at hl 5 rfl) ?_
      refine lv_icmp_ne (tgt := 100) X.1 X.2.1 dX12_order_67 (by decide) (fun c_6 => ?_) (fun c_6 => ?_)
      · skip
        have hE := ite_f hE c_6
        have ho := ite_fP ho c_6
        refine lv_iinc (v := _ + 1) (lv' := [(5, .int _), (3, .int _), (0, .ref _), (1, .int _), (2, .int _), (4, .int _)]) X.1 X.2.1 dX12_order_100 hl (k := 5) rfl rfl (by decide) rfl (fun ls hl => ?_)
        refine lv_goto (tgt := 44) X.1 X.2.1 dX12_order_103 (by decide) ?_
        exact ih _ _ _ _ _ _ _ I (lv_sub hl [2, 3, 4, 1, 5, 0] rfl) ho (Nat.lt_of_lt_of_le (up_dec c_3) (Nat.le_of_lt_succ hm)) (hE.trans (rfl))
      · skip
        have hE := ite_t hE c_6
        have ho := ite_tP ho c_6
        refine lv_aload_n X.1 X.2.1 dX12_order_70 rfl (lv_at hl 1 rfl) ?_
        refine lv_aload_n X.1 X.2.1 dX12_order_71 rfl (lv_at hl 1 rfl) ?_
        refine g12_39 X I (k := 123) (by decide) rfl lf_X12_77 dX12_order_72 ?_
        refine lv_iload X.1 X.2.1 dX12_order_75 (lv_at hl 5 rfl) ?_
        have ho5 := ho.1
        have ho := ho.2
        refine r_ald X I (k := 144) (n := 7) (by decide) rfl ho5 dX12_order_77 ?_
        have ho6 := ho.1
        have ho := ho.2
        refine r_ei I (r_runV X I pk_X12_whyNot (c12_whyNot l G _ _ _ ho6) lm_X12_344 (by decide) (cl_12 rfl) rfl rfl rfl hl.1 rfl (Nat.le_of_ble_eq_true rfl) dX12_order_78 ⟨Nat.le_of_ble_eq_true rfl, Nat.le_of_ble_eq_true rfl⟩ ⟨Nat.le_refl 0, Nat.le_refl 0⟩) (fun H locs I => ?_)
        refine lv_iconst (v := (-1)) X.1 X.2.1 dX12_order_81 (by decide) ?_
        refine lv_icmp_ne (tgt := 100) X.1 X.2.1 dX12_order_82 (by decide) (fun c_7 => ?_) (fun c_7 => ?_)
        · skip
          have hE := ite_f hE c_7
          have ho := ite_fP ho c_7
          refine lv_iinc (v := _ + 1) (lv' := [(5, .int _), (3, .int _), (0, .ref _), (1, .int _), (2, .int _), (4, .int _)]) X.1 X.2.1 dX12_order_100 hl (k := 5) rfl rfl (by decide) rfl (fun ls hl => ?_)
          refine lv_goto (tgt := 44) X.1 X.2.1 dX12_order_103 (by decide) ?_
          exact ih _ _ _ _ _ _ _ I (lv_sub hl [2, 3, 4, 1, 5, 0] rfl) ho (Nat.lt_of_lt_of_le (up_dec c_3) (Nat.le_of_lt_succ hm)) (hE.trans (rfl))
        · skip
          have hE := ite_t hE c_7
          have ho := ite_tP ho c_7
          refine lv_aload_n X.1 X.2.1 dX12_order_85 rfl (lv_at hl 1 rfl) ?_
          refine lv_aload_n X.1 X.2.1 dX12_order_86 rfl (lv_at hl 1 rfl) ?_
          refine g12_39 X I (k := 123) (by decide) rfl lf_X12_77 dX12_order_87 ?_
          refine lv_iload X.1 X.2.1 dX12_order_90 (lv_at hl 5 rfl) ?_
          have ho7 := ho.1
          have ho := ho.2
          refine r_ald X I (k := 144) (n := 7) (by decide) rfl ho7 dX12_order_92 ?_
          have ho8 := ho.1
          have ho := ho.2
          refine r_ei I (r_runV X I pk_X12_carryNow (c12_carryNow l G _ _ _ ho8) lm_X12_341 (by decide) (cl_12 rfl) rfl rfl rfl hl.1 rfl (Nat.le_of_ble_eq_true rfl) dX12_order_93 ⟨Nat.le_of_ble_eq_true rfl, Nat.le_of_ble_eq_true rfl⟩ ⟨Nat.le_refl 0, Nat.le_refl 0⟩) (fun H locs I => ?_)
          refine lv_pop X.1 X.2.1 dX12_order_96 rfl ?_
          refine lv_iinc (v := _ + 1) (lv' := [(4, .int _), (3, .int _), (0, .ref _), (1, .int _), (2, .int _), (5, .int _)]) X.1 X.2.1 dX12_order_97 hl (k := 4) rfl rfl (by decide) rfl (fun ls hl => ?_)
          refine lv_iinc (v := _ + 1) (lv' := [(5, .int _), (4, .int _), (3, .int _), (0, .ref _), (1, .int _), (2, .int _)]) X.1 X.2.1 dX12_order_100 hl (k := 5) rfl rfl (by decide) rfl (fun ls hl => ?_)
          refine lv_goto (tgt := 44) X.1 X.2.1 dX12_order_103 (by decide) ?_
          exact ih _ _ _ _ _ _ _ I (lv_sub hl [3, 4, 5, 2, 1, 0] rfl) ho (Nat.lt_of_lt_of_le (up_dec c_3) (Nat.le_of_lt_succ hm)) (hE.trans (rfl))
set_option maxHeartbeats 4000000 in
set_option maxRecDepth 100000 in
theorem c12_order (l : Launch) (G : GT) (σ : SI) (τ : SL) (x1 : Int32) (ho : o12_order σ x1) : Mc l yX12_order cX12_order 6 (some .int) 10 G [.ref (G.2.1 123), .int x1] σ τ (Qi G (Ei (f12_order σ x1).1 (f12_order σ x1).2 τ)) := by
  refine m_start (by decide +kernel) (Nat.le_of_ble_eq_true rfl) rfl (fun p e s m args below meth c ls X I hl => ?_)
  have hl : lv_has ls 6 [(0, .ref (G.2.1 123)), (1, .int x1)] := hl
  obtain ⟨E, hE⟩ : ∃ E, E = (f12_order σ x1) := ⟨_, rfl⟩
  rw [← hE]
  unfold o12_order at ho
  refine lv_aload_n X.1 X.2.1 dX12_order_0 rfl (lv_at hl 0 rfl) ?_
  refine g12_25 X I (k := 123) (by decide) rfl lf_X12_264 dX12_order_1 ?_
  refine lv_if_eq (tgt := 16) X.1 X.2.1 dX12_order_4 (by decide) (fun c_1 => ?_) (fun c_1 => ?_)
  · skip
    have hE := ite_t hE c_1
    have ho := ite_tP ho c_1
    refine lv_iconst (v := (-1)) X.1 X.2.1 dX12_order_16 (by decide) ?_
    have h9 := hE
    exact r_iret X I (e_i (pr_fst h9) (pr_snd h9) rfl) dX12_order_17
  · skip
    have hE := ite_f hE c_1
    have ho := ite_fP ho c_1
    refine lv_iload_n X.1 X.2.1 dX12_order_7 rfl (lv_at hl 1 rfl) ?_
    refine lv_iconst (v := 0) X.1 X.2.1 dX12_order_8 (by decide) ?_
    refine lv_iconst (v := 1) X.1 X.2.1 dX12_order_9 (by decide) ?_
    refine r_ei I (r_runS X I pk_X12_in (c12_in l G _ _ _ _ _) lm_X12_220 rfl hl.1 rfl (Nat.le_of_ble_eq_true rfl) dX12_order_10 ⟨Nat.le_of_ble_eq_true rfl, Nat.le_of_ble_eq_true rfl⟩ ⟨Nat.le_refl 0, Nat.le_refl 0⟩) (fun H locs I => ?_)
    refine lv_if_ne (tgt := 18) X.1 X.2.1 dX12_order_13 (by decide) (fun c_2 => ?_) (fun c_2 => ?_)
    · skip
      have hE := ite_t hE (b2i_y c_2)
      have ho := ite_tP ho (b2i_y c_2)
      refine lv_aload_n X.1 X.2.1 dX12_order_18 rfl (lv_at hl 0 rfl) ?_
      refine lv_iconst (v := 0) X.1 X.2.1 dX12_order_19 (by decide) ?_
      refine lv_aload_n X.1 X.2.1 dX12_order_20 rfl (lv_at hl 0 rfl) ?_
      refine g12_27 X I (k := 123) (by decide) rfl lf_X12_58 dX12_order_21 ?_
      refine lv_bipush (v := 11) X.1 X.2.1 dX12_order_24 (by decide) ?_
      refine r_ald X I (k := 140) (n := 255) (by decide) rfl (by unfold vp_in; decide) dX12_order_26 ?_
      have ho1 := ho.1
      have ho := ho.2
      refine r_ei I (r_runV X I pk_X12_layOrder (c12_layOrder l G _ _ false _ ho1) lm_X12_399 (by decide) (cl_12 rfl) rfl rfl rfl hl.1 rfl (Nat.le_of_ble_eq_true rfl) dX12_order_27 ⟨Nat.le_of_ble_eq_true rfl, Nat.le_of_ble_eq_true rfl⟩ ⟨Nat.le_refl 0, Nat.le_refl 0⟩) (fun H locs I => ?_)
      refine lv_istore_n (lv' := [(2, .int _), (0, .ref _), (1, .int _)]) X.1 X.2.1 dX12_order_30 rfl hl (by decide) rfl (fun ls hl => ?_)
      refine lv_iconst (v := 0) X.1 X.2.1 dX12_order_31 (by decide) ?_
      refine lv_istore_n (lv' := [(3, .int _), (2, .int _), (0, .ref _), (1, .int _)]) X.1 X.2.1 dX12_order_32 rfl hl (by decide) rfl (fun ls hl => ?_)
      refine lv_iconst (v := 0) X.1 X.2.1 dX12_order_33 (by decide) ?_
      refine lv_istore (lv' := [(4, .int _), (3, .int _), (2, .int _), (0, .ref _), (1, .int _)]) X.1 X.2.1 dX12_order_34 hl (by decide) rfl (fun ls hl => ?_)
      refine lv_aload_n X.1 X.2.1 dX12_order_36 rfl (lv_at hl 3 rfl) ?_
      refine lv_iconst (v := 0) X.1 X.2.1 dX12_order_37 (by decide) ?_
      have ho2 := ho.1
      have ho := ho.2
      refine r_ev I (r_runV X I pk_X12_putAside (c12_putAside l G _ _ _ ho2) lm_X12_385 (by decide) (cl_12 rfl) rfl rfl rfl hl.1 rfl (Nat.le_of_ble_eq_true rfl) dX12_order_38 ⟨Nat.le_of_ble_eq_true rfl, Nat.le_of_ble_eq_true rfl⟩ ⟨Nat.le_refl 0, Nat.le_refl 0⟩) (fun H locs I => ?_)
      refine lv_iconst (v := 0) X.1 X.2.1 dX12_order_41 (by decide) ?_
      refine lv_istore (lv' := [(5, .int _), (4, .int _), (3, .int _), (2, .int _), (0, .ref _), (1, .int _)]) X.1 X.2.1 dX12_order_42 hl (by decide) rfl (fun ls hl => ?_)
      exact c12_order_c44 X _ _ _ _ _ _ _ _ _ _ _ I (lv_sub hl [4, 5, 3, 2, 1, 0] rfl) ho (fu1_lt _) (hE.trans (rfl))
    · skip
      have hE := ite_f hE (b2i_n c_2)
      have ho := ite_fP ho (b2i_n c_2)
      refine lv_iconst (v := (-1)) X.1 X.2.1 dX12_order_16 (by decide) ?_
      have h9 := hE
      exact r_iret X I (e_i (pr_fst h9) (pr_snd h9) rfl) dX12_order_17
noncomputable def f12_shorter_c22 (x1 : Int32) (x2 : Int32) : Nat → Int32 → SI → (Int32 × SI)
  | 0, _, σ => (0, σ)
  | fu + 1, v3, σ => if (σ 140 (Int32.toNatClampNeg ((0 : Int32) + x1))) < v3 then ((-1 : Int32), σ) else (let r0 := (f12_standsIf σ x1 ((σ 140 (Int32.toNatClampNeg ((0 : Int32) + x1))) - v3) (0 : Int32)); if x2 < r0.1 then (f12_shorter_c22 x1 x2 fu (v3 + 1) r0.2) else (v3, r0.2))
noncomputable def o12_shorter_c22 (x1 : Int32) (x2 : Int32) : Nat → Int32 → SI → Prop
  | 0, _, _ => False
  | fu + 1, v3, σ => (vp_in ((0 : Int32) + x1) 255) ∧ (if (σ 140 (Int32.toNatClampNeg ((0 : Int32) + x1))) < v3 then True else ((vp_in ((0 : Int32) + x1) 255) ∧ ((o12_standsIf σ x1 ((σ 140 (Int32.toNatClampNeg ((0 : Int32) + x1))) - v3) (0 : Int32)) ∧ (let r0 := (f12_standsIf σ x1 ((σ 140 (Int32.toNatClampNeg ((0 : Int32) + x1))) - v3) (0 : Int32)); if x2 < r0.1 then (o12_shorter_c22 x1 x2 fu (v3 + 1) r0.2) else True))))
noncomputable def f12_shorter (σ : SI) (x1 : Int32) (x2 : Int32) : Int32 × SI := if (f12_isHouse σ x1) = true then (if (f12_in x2 (0 : Int32) (60 : Int32)) = true then (f12_shorter_c22 x1 x2 (fu1 ((Int32.toInt (σ 140 (Int32.toNatClampNeg ((0 : Int32) + x1))) + 1 - Int32.toInt (0 : Int32)).toNat)) (0 : Int32) σ) else ((-1 : Int32), σ)) else ((-1 : Int32), σ)
noncomputable def o12_shorter (σ : SI) (x1 : Int32) (x2 : Int32) : Prop := if (f12_isHouse σ x1) = true then (if (f12_in x2 (0 : Int32) (60 : Int32)) = true then (o12_shorter_c22 x1 x2 (fu1 ((Int32.toInt (σ 140 (Int32.toNatClampNeg ((0 : Int32) + x1))) + 1 - Int32.toInt (0 : Int32)).toNat)) (0 : Int32) σ) else True) else True
theorem w_f12_shorter_c22 (x1 : Int32) (x2 : Int32) (a : Nat) (h0 : a ≠ 132) (h1 : a ≠ 133) : ∀ (fu : Nat) (v3 : Int32) (σ : SI), (f12_shorter_c22 x1 x2 fu v3 σ).2 a = σ a := by
  intro fu
  induction fu with
  | zero => intro v3 σ; exact rfl
  | succ fu ih =>
    intro v3 σ
    refine fp_to2 ?_
    unfold f12_shorter_c22
    exact (fr_ite2 (fr_mk21 rfl) (fr_ite2 (fp_of2 (((ih _ _).trans (w_f12_standsIf _ _ _ _ a h0 h1)))) (fr_mk21 (w_f12_standsIf _ _ _ _ a h0 h1))))
theorem w_f12_shorter (σ : SI) (x1 : Int32) (x2 : Int32) (a : Nat) (h0 : a ≠ 132) (h1 : a ≠ 133) : (f12_shorter σ x1 x2).2 a = σ a := by
  refine fp_to2 ?_
  unfold f12_shorter
  exact (fr_ite2 (fr_ite2 (fp_of2 ((w_f12_shorter_c22 _ _ a h0 h1 _ _ _))) (fr_mk21 rfl)) (fr_mk21 rfl))
set_option maxHeartbeats 4000000 in
set_option maxRecDepth 100000 in
theorem c12_shorter_c22 {l : Launch} {p : Program} {e : Env} {s : State} {m : MethodId} {args : Array Value} {below : List Frame} {meth : Method} {c : Code} {G : GT} (X : CX p s m args meth c cX12_shorter RX12 4 (some .int) G) {E : Int32 × SI} (τ : SL) (x1 : Int32) (x2 : Int32) : ∀ (fu : Nat) (v3 : Int32) (σ : SI) (H : Heap) (locs : List Loc) (ls : Array Slot), IX G s H locs σ τ → lv_has ls 4 [(0, .ref (G.2.1 123)), (1, .int x1), (2, .int x2), (3, .int v3)] → (o12_shorter_c22 x1 x2 fu v3 σ) → E = (f12_shorter_c22 x1 x2 fu v3 σ) → W p l e (rmN 7) s m args below meth c H locs 0 0 (MQ below ((Qi G (Ei E.1 E.2 τ)) s.heap.size) args s 0 0 (AW G s.heap.size)) (F0 m 22 ls []) := by
  intro fu
  induction fu with
  | zero =>
    intro v3 σ H locs ls I hl  ho hE
    unfold o12_shorter_c22 at ho
    exact ho.elim
  | succ fu ih =>
    intro v3 σ H locs ls I hl  ho hE
    unfold o12_shorter_c22 at ho
    refine lv_iload_n X.1 X.2.1 dX12_shorter_22 rfl (lv_at hl 3 rfl) ?_
    refine lv_aload_n X.1 X.2.1 dX12_shorter_23 rfl (lv_at hl 0 rfl) ?_
    refine g12_27 X I (k := 123) (by decide) rfl lf_X12_58 dX12_shorter_24 ?_
    refine lv_iconst (v := 0) X.1 X.2.1 dX12_shorter_27 (by decide) ?_
    refine lv_iload_n X.1 X.2.1 dX12_shorter_28 rfl (lv_at hl 1 rfl) ?_
    refine lv_iadd X.1 X.2.1 dX12_shorter_29 ?_
    have ho1 := ho.1
    have ho := ho.2
    refine r_ald X I (k := 140) (n := 255) (by decide) rfl ho1 dX12_shorter_30 ?_
    refine lv_icmp_gt (tgt := 62) X.1 X.2.1 dX12_shorter_31 (by decide) (fun c_3 => ?_) (fun c_3 => ?_)
    · skip
      have hE := ite_t hE c_3
      have ho := ite_tP ho c_3
      refine lv_iconst (v := (-1)) X.1 X.2.1 dX12_shorter_62 (by decide) ?_
      have h9 := hE
      exact r_iret X I (e_i (pr_fst h9) (pr_snd h9) rfl) dX12_shorter_63
    · skip
      have hE := ite_f hE c_3
      have ho := ite_fP ho c_3
      refine lv_aload_n X.1 X.2.1 dX12_shorter_34 rfl (lv_at hl 0 rfl) ?_
      refine lv_iload_n X.1 X.2.1 dX12_shorter_35 rfl (lv_at hl 1 rfl) ?_
      refine lv_aload_n X.1 X.2.1 dX12_shorter_36 rfl (lv_at hl 0 rfl) ?_
      refine g12_27 X I (k := 123) (by decide) rfl lf_X12_58 dX12_shorter_37 ?_
      refine lv_iconst (v := 0) X.1 X.2.1 dX12_shorter_40 (by decide) ?_
      refine lv_iload_n X.1 X.2.1 dX12_shorter_41 rfl (lv_at hl 1 rfl) ?_
      refine lv_iadd X.1 X.2.1 dX12_shorter_42 ?_
      have ho2 := ho.1
      have ho := ho.2
      refine r_ald X I (k := 140) (n := 255) (by decide) rfl ho2 dX12_shorter_43 ?_
      refine lv_iload_n X.1 X.2.1 dX12_shorter_44 rfl (lv_at hl 3 rfl) ?_
      refine lv_isub X.1 X.2.1 dX12_shorter_45 ?_
      refine lv_iconst (v := 0) X.1 X.2.1 dX12_shorter_46 (by decide) ?_
      have ho3 := ho.1
      have ho := ho.2
      refine r_ei I (r_runV X I pk_X12_standsIf (c12_standsIf l G _ _ _ _ _ ho3) lm_X12_323 (by decide) (cl_12 rfl) rfl rfl rfl hl.1 rfl (Nat.le_of_ble_eq_true rfl) dX12_shorter_47 ⟨Nat.le_of_ble_eq_true rfl, Nat.le_of_ble_eq_true rfl⟩ ⟨Nat.le_refl 0, Nat.le_refl 0⟩) (fun H locs I => ?_)
      refine lv_iload_n X.1 X.2.1 dX12_shorter_50 rfl (lv_at hl 2 rfl) ?_
      refine lv_icmp_gt (tgt := 56) X.1 X.2.1 dX12_shorter_51 (by decide) (fun c_4 => ?_) (fun c_4 => ?_)
      · skip
        have hE := ite_t hE c_4
        have ho := ite_tP ho c_4
        refine lv_iinc (v := _ + 1) (lv' := [(3, .int _), (0, .ref _), (1, .int _), (2, .int _)]) X.1 X.2.1 dX12_shorter_56 hl (k := 3) rfl rfl (by decide) rfl (fun ls hl => ?_)
        refine lv_goto (tgt := 22) X.1 X.2.1 dX12_shorter_59 (by decide) ?_
        exact ih _ _ _ _ _ I (lv_sub hl [1, 2, 3, 0] rfl) ho (hE.trans (rfl))
      · skip
        have hE := ite_f hE c_4
        have ho := ite_fP ho c_4
        refine lv_iload_n X.1 X.2.1 dX12_shorter_54 rfl (lv_at hl 3 rfl) ?_
        have h9 := hE
        exact r_iret X I (e_i (pr_fst h9) (pr_snd h9) rfl) dX12_shorter_55
set_option maxHeartbeats 4000000 in
set_option maxRecDepth 100000 in
theorem c12_shorter (l : Launch) (G : GT) (σ : SI) (τ : SL) (x1 : Int32) (x2 : Int32) (ho : o12_shorter σ x1 x2) : Mc l yX12_shorter cX12_shorter 4 (some .int) 7 G [.ref (G.2.1 123), .int x1, .int x2] σ τ (Qi G (Ei (f12_shorter σ x1 x2).1 (f12_shorter σ x1 x2).2 τ)) := by
  refine m_start (by decide +kernel) (Nat.le_of_ble_eq_true rfl) rfl (fun p e s m args below meth c ls X I hl => ?_)
  have hl : lv_has ls 4 [(0, .ref (G.2.1 123)), (1, .int x1), (2, .int x2)] := hl
  obtain ⟨E, hE⟩ : ∃ E, E = (f12_shorter σ x1 x2) := ⟨_, rfl⟩
  rw [← hE]
  unfold o12_shorter at ho
  refine lv_aload_n X.1 X.2.1 dX12_shorter_0 rfl (lv_at hl 0 rfl) ?_
  refine lv_iload_n X.1 X.2.1 dX12_shorter_1 rfl (lv_at hl 1 rfl) ?_
  refine r_ei I (r_runV X I pk_X12_isHouse (c12_isHouse l G _ _ _) lm_X12_332 (by decide) (cl_12 rfl) rfl rfl rfl hl.1 rfl (Nat.le_of_ble_eq_true rfl) dX12_shorter_2 ⟨Nat.le_of_ble_eq_true rfl, Nat.le_of_ble_eq_true rfl⟩ ⟨Nat.le_refl 0, Nat.le_refl 0⟩) (fun H locs I => ?_)
  refine lv_if_eq (tgt := 18) X.1 X.2.1 dX12_shorter_5 (by decide) (fun c_1 => ?_) (fun c_1 => ?_)
  · skip
    have hE := ite_f hE (b2i_n c_1)
    have ho := ite_fP ho (b2i_n c_1)
    refine lv_iconst (v := (-1)) X.1 X.2.1 dX12_shorter_18 (by decide) ?_
    have h9 := hE
    exact r_iret X I (e_i (pr_fst h9) (pr_snd h9) rfl) dX12_shorter_19
  · skip
    have hE := ite_t hE (b2i_y c_1)
    have ho := ite_tP ho (b2i_y c_1)
    refine lv_iload_n X.1 X.2.1 dX12_shorter_8 rfl (lv_at hl 2 rfl) ?_
    refine lv_iconst (v := 0) X.1 X.2.1 dX12_shorter_9 (by decide) ?_
    refine lv_bipush (v := 60) X.1 X.2.1 dX12_shorter_10 (by decide) ?_
    refine r_ei I (r_runS X I pk_X12_in (c12_in l G _ _ _ _ _) lm_X12_220 rfl hl.1 rfl (Nat.le_of_ble_eq_true rfl) dX12_shorter_12 ⟨Nat.le_of_ble_eq_true rfl, Nat.le_of_ble_eq_true rfl⟩ ⟨Nat.le_refl 0, Nat.le_refl 0⟩) (fun H locs I => ?_)
    refine lv_if_ne (tgt := 20) X.1 X.2.1 dX12_shorter_15 (by decide) (fun c_2 => ?_) (fun c_2 => ?_)
    · skip
      have hE := ite_t hE (b2i_y c_2)
      have ho := ite_tP ho (b2i_y c_2)
      refine lv_iconst (v := 0) X.1 X.2.1 dX12_shorter_20 (by decide) ?_
      refine lv_istore_n (lv' := [(3, .int _), (0, .ref _), (1, .int _), (2, .int _)]) X.1 X.2.1 dX12_shorter_21 rfl hl (by decide) rfl (fun ls hl => ?_)
      exact c12_shorter_c22 X _ _ _ _ _ _ _ _ _ I (lv_sub hl [1, 2, 3, 0] rfl) ho (hE.trans (rfl))
    · skip
      have hE := ite_f hE (b2i_n c_2)
      have ho := ite_fP ho (b2i_n c_2)
      refine lv_iconst (v := (-1)) X.1 X.2.1 dX12_shorter_18 (by decide) ?_
      have h9 := hE
      exact r_iret X I (e_i (pr_fst h9) (pr_snd h9) rfl) dX12_shorter_19
