noncomputable def f12_in (x0 : Int32) (x1 : Int32) (x2 : Int32) : Bool := if x0 < x1 then false else (if x2 < x0 then false else true)
set_option maxHeartbeats 4000000 in
set_option maxRecDepth 100000 in
theorem c12_in (l : Launch) (G : GT) (σ : SI) (τ : SL) (x0 : Int32) (x1 : Int32) (x2 : Int32) : Mc l yX12_in cX12_in 3 (some .boolean) 0 G [.int x0, .int x1, .int x2] σ τ (Qi G (Ei (b2i (f12_in x0 x1 x2)) σ τ)) := by
  refine m_start (by decide +kernel) (Nat.le_of_ble_eq_true rfl) rfl (fun p e s m args below meth c ls X I hl => ?_)
  have hl : lv_has ls 3 [(0, .int x0), (1, .int x1), (2, .int x2)] := hl
  obtain ⟨E, hE⟩ : ∃ E, E = (f12_in x0 x1 x2) := ⟨_, rfl⟩
  rw [← hE]
  refine lv_iload_n X.1 X.2.1 dX12_in_0 rfl (lv_at hl 0 rfl) ?_
  refine lv_iload_n X.1 X.2.1 dX12_in_1 rfl (lv_at hl 1 rfl) ?_
  refine lv_icmp_lt (tgt := 14) X.1 X.2.1 dX12_in_2 (by decide) (fun c_1 => ?_) (fun c_1 => ?_)
  · skip
    have hE := ite_t hE c_1
    refine lv_iconst (v := 0) X.1 X.2.1 dX12_in_14 (by decide) ?_
    have h9 := hE
    exact r_zret X I rfl (e_i (congrArg b2i h9).symm rfl rfl) dX12_in_15
  · skip
    have hE := ite_f hE c_1
    refine lv_iload_n X.1 X.2.1 dX12_in_5 rfl (lv_at hl 0 rfl) ?_
    refine lv_iload_n X.1 X.2.1 dX12_in_6 rfl (lv_at hl 2 rfl) ?_
    refine lv_icmp_gt (tgt := 14) X.1 X.2.1 dX12_in_7 (by decide) (fun c_2 => ?_) (fun c_2 => ?_)
    · skip
      have hE := ite_t hE c_2
      refine lv_iconst (v := 0) X.1 X.2.1 dX12_in_14 (by decide) ?_
      have h9 := hE
      exact r_zret X I rfl (e_i (congrArg b2i h9).symm rfl rfl) dX12_in_15
    · skip
      have hE := ite_f hE c_2
      refine lv_iconst (v := 1) X.1 X.2.1 dX12_in_10 (by decide) ?_
      refine lv_goto (tgt := 15) X.1 X.2.1 dX12_in_11 (by decide) ?_
      have h9 := hE
      exact r_zret X I rfl (e_i (congrArg b2i h9).symm rfl rfl) dX12_in_15
noncomputable def f12_has (x0 : Int32) (x1 : Int32) : Bool := if ((x0 >>> (x1 &&& 31)) &&& (1 : Int32)) = (1 : Int32) then true else false
set_option maxHeartbeats 4000000 in
set_option maxRecDepth 100000 in
theorem c12_has (l : Launch) (G : GT) (σ : SI) (τ : SL) (x0 : Int32) (x1 : Int32) : Mc l yX12_has cX12_has 2 (some .boolean) 0 G [.int x0, .int x1] σ τ (Qi G (Ei (b2i (f12_has x0 x1)) σ τ)) := by
  refine m_start (by decide +kernel) (Nat.le_of_ble_eq_true rfl) rfl (fun p e s m args below meth c ls X I hl => ?_)
  have hl : lv_has ls 2 [(0, .int x0), (1, .int x1)] := hl
  obtain ⟨E, hE⟩ : ∃ E, E = (f12_has x0 x1) := ⟨_, rfl⟩
  rw [← hE]
  refine lv_iload_n X.1 X.2.1 dX12_has_0 rfl (lv_at hl 0 rfl) ?_
  refine lv_iload_n X.1 X.2.1 dX12_has_1 rfl (lv_at hl 1 rfl) ?_
  refine lv_ishr X.1 X.2.1 dX12_has_2 ?_
  refine lv_iconst (v := 1) X.1 X.2.1 dX12_has_3 (by decide) ?_
  refine lv_iand X.1 X.2.1 dX12_has_4 ?_
  refine lv_iconst (v := 1) X.1 X.2.1 dX12_has_5 (by decide) ?_
  refine lv_icmp_ne (tgt := 13) X.1 X.2.1 dX12_has_6 (by decide) (fun c_1 => ?_) (fun c_1 => ?_)
  · skip
    have hE := ite_f hE c_1
    refine lv_iconst (v := 0) X.1 X.2.1 dX12_has_13 (by decide) ?_
    have h9 := hE
    exact r_zret X I rfl (e_i (congrArg b2i h9).symm rfl rfl) dX12_has_14
  · skip
    have hE := ite_t hE c_1
    refine lv_iconst (v := 1) X.1 X.2.1 dX12_has_9 (by decide) ?_
    refine lv_goto (tgt := 14) X.1 X.2.1 dX12_has_10 (by decide) ?_
    have h9 := hE
    exact r_zret X I rfl (e_i (congrArg b2i h9).symm rfl rfl) dX12_has_14
noncomputable def f12_thrown (σ : SI) : Int32 := (σ 123 0)
set_option maxHeartbeats 4000000 in
set_option maxRecDepth 100000 in
theorem c12_thrown (l : Launch) (G : GT) (σ : SI) (τ : SL) : Mc l yX12_thrown cX12_thrown 1 (some .int) 0 G [.ref (G.2.1 123)] σ τ (Qi G (Ei (f12_thrown σ) σ τ)) := by
  refine m_start (by decide +kernel) (Nat.le_of_ble_eq_true rfl) rfl (fun p e s m args below meth c ls X I hl => ?_)
  have hl : lv_has ls 1 [(0, .ref (G.2.1 123))] := hl
  obtain ⟨E, hE⟩ : ∃ E, E = (f12_thrown σ) := ⟨_, rfl⟩
  rw [← hE]
  refine lv_aload_n X.1 X.2.1 dX12_thrown_0 rfl (lv_at hl 0 rfl) ?_
  refine g12_0 X I (k := 123) (by decide) rfl lf_X12_105 dX12_thrown_1 ?_
  have h9 := hE
  exact r_iret X I (e_i h9.symm rfl rfl) dX12_thrown_4
noncomputable def f12_byteOf (x0 : Int32) (x1 : Int32) (x2 : Int32) (x3 : Int32) (x4 : Int32) (x5 : Int32) : Int32 := if (4 : Int32) ≤ x5 then (if (8 : Int32) ≤ x5 then (if (12 : Int32) ≤ x5 then (if (16 : Int32) ≤ x5 then ((x4 >>> (((24 : Int32) - ((8 : Int32) * (x5 - x5 / (4 : Int32) * (4 : Int32)))) &&& 31)) &&& (255 : Int32)) else ((x3 >>> (((24 : Int32) - ((8 : Int32) * (x5 - x5 / (4 : Int32) * (4 : Int32)))) &&& 31)) &&& (255 : Int32))) else ((x2 >>> (((24 : Int32) - ((8 : Int32) * (x5 - x5 / (4 : Int32) * (4 : Int32)))) &&& 31)) &&& (255 : Int32))) else ((x1 >>> (((24 : Int32) - ((8 : Int32) * (x5 - x5 / (4 : Int32) * (4 : Int32)))) &&& 31)) &&& (255 : Int32))) else ((x0 >>> (((24 : Int32) - ((8 : Int32) * (x5 - x5 / (4 : Int32) * (4 : Int32)))) &&& 31)) &&& (255 : Int32))
set_option maxHeartbeats 4000000 in
set_option maxRecDepth 100000 in
theorem c12_byteOf (l : Launch) (G : GT) (σ : SI) (τ : SL) (x0 : Int32) (x1 : Int32) (x2 : Int32) (x3 : Int32) (x4 : Int32) (x5 : Int32) : Mc l yX12_byteOf cX12_byteOf 7 (some .int) 0 G [.int x0, .int x1, .int x2, .int x3, .int x4, .int x5] σ τ (Qi G (Ei (f12_byteOf x0 x1 x2 x3 x4 x5) σ τ)) := by
  refine m_start (by decide +kernel) (Nat.le_of_ble_eq_true rfl) rfl (fun p e s m args below meth c ls X I hl => ?_)
  have hl : lv_has ls 7 [(0, .int x0), (1, .int x1), (2, .int x2), (3, .int x3), (4, .int x4), (5, .int x5)] := hl
  obtain ⟨E, hE⟩ : ∃ E, E = (f12_byteOf x0 x1 x2 x3 x4 x5) := ⟨_, rfl⟩
  rw [← hE]
  refine lv_iload X.1 X.2.1 dX12_byteOf_0 (lv_at hl 5 rfl) ?_
  refine lv_iconst (v := 4) X.1 X.2.1 dX12_byteOf_2 (by decide) ?_
  refine lv_icmp_ge (tgt := 10) X.1 X.2.1 dX12_byteOf_3 (by decide) (fun c_1 => ?_) (fun c_1 => ?_)
  · skip
    have hE := ite_t hE c_1
    refine lv_iload X.1 X.2.1 dX12_byteOf_10 (lv_at hl 5 rfl) ?_
    refine lv_bipush (v := 8) X.1 X.2.1 dX12_byteOf_12 (by decide) ?_
    refine lv_icmp_ge (tgt := 21) X.1 X.2.1 dX12_byteOf_14 (by decide) (fun c_2 => ?_) (fun c_2 => ?_)
    · skip
      have hE := ite_t hE c_2
      refine lv_iload X.1 X.2.1 dX12_byteOf_21 (lv_at hl 5 rfl) ?_
      refine lv_bipush (v := 12) X.1 X.2.1 dX12_byteOf_23 (by decide) ?_
      refine lv_icmp_ge (tgt := 32) X.1 X.2.1 dX12_byteOf_25 (by decide) (fun c_3 => ?_) (fun c_3 => ?_)
      · skip
        have hE := ite_t hE c_3
        refine lv_iload X.1 X.2.1 dX12_byteOf_32 (lv_at hl 5 rfl) ?_
        refine lv_bipush (v := 16) X.1 X.2.1 dX12_byteOf_34 (by decide) ?_
        refine lv_icmp_ge (tgt := 43) X.1 X.2.1 dX12_byteOf_36 (by decide) (fun c_4 => ?_) (fun c_4 => ?_)
        · skip
          have hE := ite_t hE c_4
          refine lv_iload X.1 X.2.1 dX12_byteOf_43 (lv_at hl 4 rfl) ?_
          refine lv_istore (lv' := [(6, .int _), (0, .int _), (1, .int _), (2, .int _), (3, .int _), (4, .int _), (5, .int _)]) X.1 X.2.1 dX12_byteOf_45 hl (by decide) rfl (fun ls hl => ?_)
          refine lv_iload X.1 X.2.1 dX12_byteOf_47 (lv_at hl 0 rfl) ?_
          refine lv_bipush (v := 24) X.1 X.2.1 dX12_byteOf_49 (by decide) ?_
          refine lv_bipush (v := 8) X.1 X.2.1 dX12_byteOf_51 (by decide) ?_
          refine lv_iload X.1 X.2.1 dX12_byteOf_53 (lv_at hl 6 rfl) ?_
          refine lv_iconst (v := 4) X.1 X.2.1 dX12_byteOf_55 (by decide) ?_
          refine lv_irem X.1 X.2.1 dX12_byteOf_56 (by decide) ?_
          refine lv_imul X.1 X.2.1 dX12_byteOf_57 ?_
          refine lv_isub X.1 X.2.1 dX12_byteOf_58 ?_
          refine lv_ishr X.1 X.2.1 dX12_byteOf_59 ?_
          refine lv_sipush (v := 255) X.1 X.2.1 dX12_byteOf_60 (by decide) ?_
          refine lv_iand X.1 X.2.1 dX12_byteOf_63 ?_
          have h9 := hE
          exact r_iret X I (e_i h9.symm rfl rfl) dX12_byteOf_64
        · skip
          have hE := ite_f hE c_4
          refine lv_iload_n X.1 X.2.1 dX12_byteOf_39 rfl (lv_at hl 3 rfl) ?_
          refine lv_goto (tgt := 45) X.1 X.2.1 dX12_byteOf_40 (by decide) ?_
          refine lv_istore (lv' := [(6, .int _), (0, .int _), (1, .int _), (2, .int _), (3, .int _), (4, .int _), (5, .int _)]) X.1 X.2.1 dX12_byteOf_45 hl (by decide) rfl (fun ls hl => ?_)
          refine lv_iload X.1 X.2.1 dX12_byteOf_47 (lv_at hl 0 rfl) ?_
          refine lv_bipush (v := 24) X.1 X.2.1 dX12_byteOf_49 (by decide) ?_
          refine lv_bipush (v := 8) X.1 X.2.1 dX12_byteOf_51 (by decide) ?_
          refine lv_iload X.1 X.2.1 dX12_byteOf_53 (lv_at hl 6 rfl) ?_
          refine lv_iconst (v := 4) X.1 X.2.1 dX12_byteOf_55 (by decide) ?_
          refine lv_irem X.1 X.2.1 dX12_byteOf_56 (by decide) ?_
          refine lv_imul X.1 X.2.1 dX12_byteOf_57 ?_
          refine lv_isub X.1 X.2.1 dX12_byteOf_58 ?_
          refine lv_ishr X.1 X.2.1 dX12_byteOf_59 ?_
          refine lv_sipush (v := 255) X.1 X.2.1 dX12_byteOf_60 (by decide) ?_
          refine lv_iand X.1 X.2.1 dX12_byteOf_63 ?_
          have h9 := hE
          exact r_iret X I (e_i h9.symm rfl rfl) dX12_byteOf_64
      · skip
        have hE := ite_f hE c_3
        refine lv_iload_n X.1 X.2.1 dX12_byteOf_28 rfl (lv_at hl 2 rfl) ?_
        refine lv_goto (tgt := 45) X.1 X.2.1 dX12_byteOf_29 (by decide) ?_
        refine lv_istore (lv' := [(6, .int _), (0, .int _), (1, .int _), (2, .int _), (3, .int _), (4, .int _), (5, .int _)]) X.1 X.2.1 dX12_byteOf_45 hl (by decide) rfl (fun ls hl => ?_)
        refine lv_iload X.1 X.2.1 dX12_byteOf_47 (lv_at hl 0 rfl) ?_
        refine lv_bipush (v := 24) X.1 X.2.1 dX12_byteOf_49 (by decide) ?_
        refine lv_bipush (v := 8) X.1 X.2.1 dX12_byteOf_51 (by decide) ?_
        refine lv_iload X.1 X.2.1 dX12_byteOf_53 (lv_at hl 6 rfl) ?_
        refine lv_iconst (v := 4) X.1 X.2.1 dX12_byteOf_55 (by decide) ?_
        refine lv_irem X.1 X.2.1 dX12_byteOf_56 (by decide) ?_
        refine lv_imul X.1 X.2.1 dX12_byteOf_57 ?_
        refine lv_isub X.1 X.2.1 dX12_byteOf_58 ?_
        refine lv_ishr X.1 X.2.1 dX12_byteOf_59 ?_
        refine lv_sipush (v := 255) X.1 X.2.1 dX12_byteOf_60 (by decide) ?_
        refine lv_iand X.1 X.2.1 dX12_byteOf_63 ?_
        have h9 := hE
        exact r_iret X I (e_i h9.symm rfl rfl) dX12_byteOf_64
    · skip
      have hE := ite_f hE c_2
      refine lv_iload_n X.1 X.2.1 dX12_byteOf_17 rfl (lv_at hl 1 rfl) ?_
      refine lv_goto (tgt := 45) X.1 X.2.1 dX12_byteOf_18 (by decide) ?_
      refine lv_istore (lv' := [(6, .int _), (0, .int _), (1, .int _), (2, .int _), (3, .int _), (4, .int _), (5, .int _)]) X.1 X.2.1 dX12_byteOf_45 hl (by decide) rfl (fun ls hl => ?_)
      refine lv_iload X.1 X.2.1 dX12_byteOf_47 (lv_at hl 0 rfl) ?_
      refine lv_bipush (v := 24) X.1 X.2.1 dX12_byteOf_49 (by decide) ?_
      refine lv_bipush (v := 8) X.1 X.2.1 dX12_byteOf_51 (by decide) ?_
      refine lv_iload X.1 X.2.1 dX12_byteOf_53 (lv_at hl 6 rfl) ?_
      refine lv_iconst (v := 4) X.1 X.2.1 dX12_byteOf_55 (by decide) ?_
      refine lv_irem X.1 X.2.1 dX12_byteOf_56 (by decide) ?_
      refine lv_imul X.1 X.2.1 dX12_byteOf_57 ?_
      refine lv_isub X.1 X.2.1 dX12_byteOf_58 ?_
      refine lv_ishr X.1 X.2.1 dX12_byteOf_59 ?_
      refine lv_sipush (v := 255) X.1 X.2.1 dX12_byteOf_60 (by decide) ?_
      refine lv_iand X.1 X.2.1 dX12_byteOf_63 ?_
      have h9 := hE
      exact r_iret X I (e_i h9.symm rfl rfl) dX12_byteOf_64
  · skip
    have hE := ite_f hE c_1
    refine lv_iload_n X.1 X.2.1 dX12_byteOf_6 rfl (lv_at hl 0 rfl) ?_
    refine lv_goto (tgt := 45) X.1 X.2.1 dX12_byteOf_7 (by decide) ?_
    refine lv_istore (lv' := [(6, .int _), (0, .int _), (1, .int _), (2, .int _), (3, .int _), (4, .int _), (5, .int _)]) X.1 X.2.1 dX12_byteOf_45 hl (by decide) rfl (fun ls hl => ?_)
    refine lv_iload X.1 X.2.1 dX12_byteOf_47 (lv_at hl 0 rfl) ?_
    refine lv_bipush (v := 24) X.1 X.2.1 dX12_byteOf_49 (by decide) ?_
    refine lv_bipush (v := 8) X.1 X.2.1 dX12_byteOf_51 (by decide) ?_
    refine lv_iload X.1 X.2.1 dX12_byteOf_53 (lv_at hl 6 rfl) ?_
    refine lv_iconst (v := 4) X.1 X.2.1 dX12_byteOf_55 (by decide) ?_
    refine lv_irem X.1 X.2.1 dX12_byteOf_56 (by decide) ?_
    refine lv_imul X.1 X.2.1 dX12_byteOf_57 ?_
    refine lv_isub X.1 X.2.1 dX12_byteOf_58 ?_
    refine lv_ishr X.1 X.2.1 dX12_byteOf_59 ?_
    refine lv_sipush (v := 255) X.1 X.2.1 dX12_byteOf_60 (by decide) ?_
    refine lv_iand X.1 X.2.1 dX12_byteOf_63 ?_
    have h9 := hE
    exact r_iret X I (e_i h9.symm rfl rfl) dX12_byteOf_64
noncomputable def f12_feed_c62 (x1 : Int32) (x2 : Int32) (x3 : Int32) (x4 : Int32) (x5 : Int32) (x6 : Int32) (K : Int32 → SI → (Int32 × SI)) : Nat → Int32 → SI → (Int32 × SI)
  | 0, v7, σ => (K v7 σ)
  | fu + 1, v7, σ => if (20 : Int32) ≤ v7 then (K v7 σ) else (if (f12_byteOf x1 x2 x3 x4 x5 v7) = (0 : Int32) then (f12_feed_c62 x1 x2 x3 x4 x5 x6 K fu (v7 + 1) σ) else (let s0 := sp σ 124 (Int32.toNatClampNeg (σ 123 2)) (f12_byteOf x1 x2 x3 x4 x5 v7); let s1 := sp s0 123 2 ((σ 123 2) + (1 : Int32)); (f12_feed_c62 x1 x2 x3 x4 x5 x6 K fu (v7 + 1) s1)))
noncomputable def o12_feed_c62 (x1 : Int32) (x2 : Int32) (x3 : Int32) (x4 : Int32) (x5 : Int32) (x6 : Int32) (oK : Int32 → SI → Prop) : Nat → Int32 → SI → Prop
  | 0, _, _ => True
  | fu + 1, v7, σ => if (20 : Int32) ≤ v7 then (oK v7 σ) else (if (f12_byteOf x1 x2 x3 x4 x5 v7) = (0 : Int32) then (o12_feed_c62 x1 x2 x3 x4 x5 x6 oK fu (v7 + 1) σ) else ((vp_in (σ 123 2) 240) ∧ (let s0 := sp σ 124 (Int32.toNatClampNeg (σ 123 2)) (f12_byteOf x1 x2 x3 x4 x5 v7); let s1 := sp s0 123 2 ((σ 123 2) + (1 : Int32)); (o12_feed_c62 x1 x2 x3 x4 x5 x6 oK fu (v7 + 1) s1))))
noncomputable def f12_feed_c6 (σ : SI) (x1 : Int32) (x2 : Int32) (x3 : Int32) (x4 : Int32) (x5 : Int32) : Nat → Int32 → Int32 → (Int32 × SI)
  | 0, _, _ => (0, σ)
  | fu + 1, v6, v7 => if (20 : Int32) ≤ v7 then (if ((σ 123 2) + v6) ≤ (240 : Int32) then (f12_feed_c62 x1 x2 x3 x4 x5 v6 (fun (y1_7 : Int32) (σk1 : SI) => ((σk1 123 2), σk1)) (fu1 ((Int32.toInt (20 : Int32) - Int32.toInt (0 : Int32)).toNat)) (0 : Int32) σ) else ((-1 : Int32), σ)) else (if (f12_byteOf x1 x2 x3 x4 x5 v7) = (0 : Int32) then (f12_feed_c6 σ x1 x2 x3 x4 x5 fu (v6 + (0 : Int32)) (v7 + 1)) else (f12_feed_c6 σ x1 x2 x3 x4 x5 fu (v6 + (1 : Int32)) (v7 + 1)))
noncomputable def o12_feed_c6 (σ : SI) (x1 : Int32) (x2 : Int32) (x3 : Int32) (x4 : Int32) (x5 : Int32) : Nat → Int32 → Int32 → Prop
  | 0, _, _ => True
  | fu + 1, v6, v7 => if (20 : Int32) ≤ v7 then (if ((σ 123 2) + v6) ≤ (240 : Int32) then (o12_feed_c62 x1 x2 x3 x4 x5 v6 (fun (y1_7 : Int32) (σk1 : SI) => True) (fu1 ((Int32.toInt (20 : Int32) - Int32.toInt (0 : Int32)).toNat)) (0 : Int32) σ) else True) else (if (f12_byteOf x1 x2 x3 x4 x5 v7) = (0 : Int32) then (o12_feed_c6 σ x1 x2 x3 x4 x5 fu (v6 + (0 : Int32)) (v7 + 1)) else (o12_feed_c6 σ x1 x2 x3 x4 x5 fu (v6 + (1 : Int32)) (v7 + 1)))
noncomputable def f12_feed (σ : SI) (x1 : Int32) (x2 : Int32) (x3 : Int32) (x4 : Int32) (x5 : Int32) : Int32 × SI := (f12_feed_c6 σ x1 x2 x3 x4 x5 (fu1 ((Int32.toInt (20 : Int32) - Int32.toInt (0 : Int32)).toNat)) (0 : Int32) (0 : Int32))
noncomputable def o12_feed (σ : SI) (x1 : Int32) (x2 : Int32) (x3 : Int32) (x4 : Int32) (x5 : Int32) : Prop := (o12_feed_c6 σ x1 x2 x3 x4 x5 (fu1 ((Int32.toInt (20 : Int32) - Int32.toInt (0 : Int32)).toNat)) (0 : Int32) (0 : Int32))
theorem w_f12_feed_c62 (x1 : Int32) (x2 : Int32) (x3 : Int32) (x4 : Int32) (x5 : Int32) (x6 : Int32) {K : Int32 → SI → (Int32 × SI)} (a : Nat) (h0 : a ≠ 123) (h1 : a ≠ 124) (hK : ∀ (v7 : Int32) (σ : SI), (K v7 σ).2 a = σ a) : ∀ (fu : Nat) (v7 : Int32) (σ : SI), (f12_feed_c62 x1 x2 x3 x4 x5 x6 K fu v7 σ).2 a = σ a := by
  intro fu
  induction fu with
  | zero => intro v7 σ; exact hK v7 σ
  | succ fu ih =>
    intro v7 σ
    refine fp_to2 ?_
    unfold f12_feed_c62
    exact (fr_ite2 (fp_of2 ((hK _ _))) (fr_ite2 (fp_of2 ((ih _ _))) (fp_of2 (((ih _ _).trans ((sp_n h0).trans (sp_n h1)))))))
theorem w_f12_feed_c6 (x1 : Int32) (x2 : Int32) (x3 : Int32) (x4 : Int32) (x5 : Int32) (σ : SI) (a : Nat) (h0 : a ≠ 123) (h1 : a ≠ 124) : ∀ (fu : Nat) (v6 : Int32) (v7 : Int32), (f12_feed_c6 σ x1 x2 x3 x4 x5 fu v6 v7).2 a = σ a := by
  intro fu
  induction fu with
  | zero => intro v6 v7; exact rfl
  | succ fu ih =>
    intro v6 v7
    refine fp_to2 ?_
    unfold f12_feed_c6
    exact (fr_ite2 (fr_ite2 (fp_of2 ((w_f12_feed_c62 _ _ _ _ _ _ a h0 h1 (fun y1_7 σk1 => (fp_to2 ((fr_mk21 rfl)))) _ _ _))) (fr_mk21 rfl)) (fr_ite2 (fp_of2 ((ih _ _))) (fp_of2 ((ih _ _)))))
theorem w_f12_feed (σ : SI) (x1 : Int32) (x2 : Int32) (x3 : Int32) (x4 : Int32) (x5 : Int32) (a : Nat) (h0 : a ≠ 123) (h1 : a ≠ 124) : (f12_feed σ x1 x2 x3 x4 x5).2 a = σ a := by
  refine fp_to2 ?_
  unfold f12_feed
  exact (fp_of2 ((w_f12_feed_c6 _ _ _ _ _ _ a h0 h1 _ _ _)))
set_option maxHeartbeats 4000000 in
set_option maxRecDepth 100000 in
theorem c12_feed_c62 {l : Launch} {p : Program} {e : Env} {s : State} {m : MethodId} {args : Array Value} {below : List Frame} {meth : Method} {c : Code} {G : GT} (X : CX p s m args meth c cX12_feed RX12 9 (some .int) G) {E : Int32 × SI} (τ : SL) (x1 : Int32) (x2 : Int32) (x3 : Int32) (x4 : Int32) (x5 : Int32) (x6 : Int32) {oK : Int32 → SI → Prop} {K : Int32 → SI → (Int32 × SI)} (hK : ∀ (v7 : Int32) (σ : SI) (H : Heap) (locs : List Loc) (ls : Array Slot), IX G s H locs σ τ → lv_has ls 9 [(0, .ref (G.2.1 123)), (1, .int x1), (2, .int x2), (3, .int x3), (4, .int x4), (5, .int x5), (6, .int x6), (7, .int v7)] → oK v7 σ → E = K v7 σ → W p l e (rmN 1) s m args below meth c H locs 0 0 (MQ below ((Qi G (Ei E.1 E.2 τ)) s.heap.size) args s 0 0 (AW G s.heap.size)) (F0 m 115 ls [])) : ∀ (fu : Nat) (v7 : Int32) (σ : SI) (H : Heap) (locs : List Loc) (ls : Array Slot), IX G s H locs σ τ → lv_has ls 9 [(0, .ref (G.2.1 123)), (1, .int x1), (2, .int x2), (3, .int x3), (4, .int x4), (5, .int x5), (6, .int x6), (7, .int v7)] → (o12_feed_c62 x1 x2 x3 x4 x5 x6 oK fu v7 σ) → (Int32.toInt (20 : Int32) - Int32.toInt v7).toNat < fu → E = (f12_feed_c62 x1 x2 x3 x4 x5 x6 K fu v7 σ) → W p l e (rmN 1) s m args below meth c H locs 0 0 (MQ below ((Qi G (Ei E.1 E.2 τ)) s.heap.size) args s 0 0 (AW G s.heap.size)) (F0 m 62 ls []) := by
  intro fu
  induction fu with
  | zero =>
    intro v7 σ H locs ls I hl  ho hm hE
    exact absurd hm (Nat.not_lt_zero _)
  | succ fu ih =>
    intro v7 σ H locs ls I hl  ho hm hE
    unfold o12_feed_c62 at ho
    refine lv_iload X.1 X.2.1 dX12_feed_62 (lv_at hl 7 rfl) ?_
    refine lv_bipush (v := 20) X.1 X.2.1 dX12_feed_64 (by decide) ?_
    refine lv_icmp_ge (tgt := 115) X.1 X.2.1 dX12_feed_66 (by decide) (fun c_3 => ?_) (fun c_3 => ?_)
    · skip
      have hE := ite_t hE c_3
      have ho := ite_tP ho c_3
      exact hK _ _ _ _ _ I (lv_sub hl [0, 1, 2, 3, 4, 5, 6, 7] rfl) ho (hE.trans (rfl))
    · skip
      have hE := ite_f hE c_3
      have ho := ite_fP ho c_3
      refine lv_iload_n X.1 X.2.1 dX12_feed_69 rfl (lv_at hl 1 rfl) ?_
      refine lv_iload_n X.1 X.2.1 dX12_feed_70 rfl (lv_at hl 2 rfl) ?_
      refine lv_iload_n X.1 X.2.1 dX12_feed_71 rfl (lv_at hl 3 rfl) ?_
      refine lv_iload X.1 X.2.1 dX12_feed_72 (lv_at hl 4 rfl) ?_
      refine lv_iload X.1 X.2.1 dX12_feed_74 (lv_at hl 5 rfl) ?_
      refine lv_iload X.1 X.2.1 dX12_feed_76 (lv_at hl 7 rfl) ?_
      refine r_ei I (r_runS X I pk_X12_byteOf (c12_byteOf l G _ _ _ _ _ _ _ _) lm_X12_108 rfl hl.1 rfl (Nat.le_of_ble_eq_true rfl) dX12_feed_78 ⟨Nat.le_of_ble_eq_true rfl, Nat.le_of_ble_eq_true rfl⟩ ⟨Nat.le_refl 0, Nat.le_refl 0⟩) (fun H locs I => ?_)
      refine lv_istore (lv' := [(8, .int _), (0, .ref _), (1, .int _), (2, .int _), (3, .int _), (4, .int _), (5, .int _), (6, .int _), (7, .int _)]) X.1 X.2.1 dX12_feed_81 hl (by decide) rfl (fun ls hl => ?_)
      refine lv_iload X.1 X.2.1 dX12_feed_83 (lv_at hl 0 rfl) ?_
      refine lv_if_eq (tgt := 109) X.1 X.2.1 dX12_feed_85 (by decide) (fun c_4 => ?_) (fun c_4 => ?_)
      · skip
        have hE := ite_t hE c_4
        have ho := ite_tP ho c_4
        refine lv_iinc (v := _ + 1) (lv' := [(7, .int _), (8, .int _), (0, .ref _), (1, .int _), (2, .int _), (3, .int _), (4, .int _), (5, .int _), (6, .int _)]) X.1 X.2.1 dX12_feed_109 hl (k := 8) rfl rfl (by decide) rfl (fun ls hl => ?_)
        refine lv_goto (tgt := 62) X.1 X.2.1 dX12_feed_112 (by decide) ?_
        exact ih _ _ _ _ _ I (lv_sub hl [2, 3, 4, 5, 6, 7, 8, 0] rfl) ho (Nat.lt_of_lt_of_le (up_dec c_3) (Nat.le_of_lt_succ hm)) (hE.trans (rfl))
      · skip
        have hE := ite_f hE c_4
        have ho := ite_fP ho c_4
        refine lv_aload_n X.1 X.2.1 dX12_feed_88 rfl (lv_at hl 1 rfl) ?_
        refine g12_1 X I (k := 123) (by decide) rfl lf_X12_9 dX12_feed_89 ?_
        refine lv_aload_n X.1 X.2.1 dX12_feed_92 rfl (lv_at hl 1 rfl) ?_
        refine g12_2 X I (k := 123) (by decide) rfl lf_X12_112 dX12_feed_93 ?_
        refine lv_iload X.1 X.2.1 dX12_feed_96 (lv_at hl 0 rfl) ?_
        have ho1 := ho.1
        have ho := ho.2
        refine r_ast X I (k := 124) (n := 240) (by decide) rfl ho1 dX12_feed_98 (fun H locs I => ?_)
        refine lv_aload_n X.1 X.2.1 dX12_feed_99 rfl (lv_at hl 1 rfl) ?_
        refine lv_dup X.1 X.2.1 dX12_feed_100 rfl ?_
        refine g12_2 X I (k := 123) (by decide) rfl lf_X12_112 dX12_feed_101 ?_
        refine lv_iconst (v := 1) X.1 X.2.1 dX12_feed_104 (by decide) ?_
        refine lv_iadd X.1 X.2.1 dX12_feed_105 ?_
        refine p12_2 X I (k := 123) (by decide) rfl lf_X12_112 dX12_feed_106 (fun H locs I => ?_)
        refine lv_iinc (v := _ + 1) (lv' := [(7, .int _), (8, .int _), (0, .ref _), (1, .int _), (2, .int _), (3, .int _), (4, .int _), (5, .int _), (6, .int _)]) X.1 X.2.1 dX12_feed_109 hl (k := 8) rfl rfl (by decide) rfl (fun ls hl => ?_)
        refine lv_goto (tgt := 62) X.1 X.2.1 dX12_feed_112 (by decide) ?_
        exact ih _ _ _ _ _ I (lv_sub hl [2, 3, 4, 5, 6, 7, 8, 0] rfl) ho (Nat.lt_of_lt_of_le (up_dec c_3) (Nat.le_of_lt_succ hm)) (hE.trans (rfl))
set_option maxHeartbeats 4000000 in
set_option maxRecDepth 100000 in
theorem c12_feed_c6 {l : Launch} {p : Program} {e : Env} {s : State} {m : MethodId} {args : Array Value} {below : List Frame} {meth : Method} {c : Code} {G : GT} (X : CX p s m args meth c cX12_feed RX12 9 (some .int) G) {E : Int32 × SI} (σ : SI) (τ : SL) (x1 : Int32) (x2 : Int32) (x3 : Int32) (x4 : Int32) (x5 : Int32) : ∀ (fu : Nat) (v6 : Int32) (v7 : Int32) (H : Heap) (locs : List Loc) (ls : Array Slot), IX G s H locs σ τ → lv_has ls 9 [(0, .ref (G.2.1 123)), (1, .int x1), (2, .int x2), (3, .int x3), (4, .int x4), (5, .int x5), (6, .int v6), (7, .int v7)] → (o12_feed_c6 σ x1 x2 x3 x4 x5 fu v6 v7) → (Int32.toInt (20 : Int32) - Int32.toInt v7).toNat < fu → E = (f12_feed_c6 σ x1 x2 x3 x4 x5 fu v6 v7) → W p l e (rmN 1) s m args below meth c H locs 0 0 (MQ below ((Qi G (Ei E.1 E.2 τ)) s.heap.size) args s 0 0 (AW G s.heap.size)) (F0 m 6 ls []) := by
  intro fu
  induction fu with
  | zero =>
    intro v6 v7 H locs ls I hl  ho hm hE
    exact absurd hm (Nat.not_lt_zero _)
  | succ fu ih =>
    intro v6 v7 H locs ls I hl  ho hm hE
    unfold o12_feed_c6 at ho
    refine lv_iload X.1 X.2.1 dX12_feed_6 (lv_at hl 7 rfl) ?_
    refine lv_bipush (v := 20) X.1 X.2.1 dX12_feed_8 (by decide) ?_
    refine lv_icmp_ge (tgt := 44) X.1 X.2.1 dX12_feed_10 (by decide) (fun c_1 => ?_) (fun c_1 => ?_)
    · skip
      have hE := ite_t hE c_1
      have ho := ite_tP ho c_1
      refine lv_aload_n X.1 X.2.1 dX12_feed_44 rfl (lv_at hl 0 rfl) ?_
      refine g12_2 X I (k := 123) (by decide) rfl lf_X12_112 dX12_feed_45 ?_
      refine lv_iload X.1 X.2.1 dX12_feed_48 (lv_at hl 6 rfl) ?_
      refine lv_iadd X.1 X.2.1 dX12_feed_50 ?_
      refine lv_sipush (v := 240) X.1 X.2.1 dX12_feed_51 (by decide) ?_
      refine lv_icmp_le (tgt := 59) X.1 X.2.1 dX12_feed_54 (by decide) (fun c_2 => ?_) (fun c_2 => ?_)
      · skip
        have hE := ite_t hE c_2
        have ho := ite_tP ho c_2
        refine lv_iconst (v := 0) X.1 X.2.1 dX12_feed_59 (by decide) ?_
        refine lv_istore (lv' := [(7, .int _), (0, .ref _), (1, .int _), (2, .int _), (3, .int _), (4, .int _), (5, .int _), (6, .int _)]) X.1 X.2.1 dX12_feed_60 hl (by decide) rfl (fun ls hl => ?_)
        refine c12_feed_c62 X _ _ _ _ _ _ _ (fun y1_7 σk1 H locs ls I hl ho hE => ?_) _ _ _ _ _ _ I (lv_sub hl [1, 2, 3, 4, 5, 6, 7, 0] rfl) ho (fu1_lt _) (hE.trans (rfl))
        refine lv_aload_n X.1 X.2.1 dX12_feed_115 rfl (lv_at hl 0 rfl) ?_
        refine g12_2 X I (k := 123) (by decide) rfl lf_X12_112 dX12_feed_116 ?_
        have h9 := hE
        exact r_iret X I (e_i (pr_fst h9) (pr_snd h9) rfl) dX12_feed_119
      · skip
        have hE := ite_f hE c_2
        have ho := ite_fP ho c_2
        refine lv_iconst (v := (-1)) X.1 X.2.1 dX12_feed_57 (by decide) ?_
        have h9 := hE
        exact r_iret X I (e_i (pr_fst h9) (pr_snd h9) rfl) dX12_feed_58
    · skip
      have hE := ite_f hE c_1
      have ho := ite_fP ho c_1
      refine lv_iload X.1 X.2.1 dX12_feed_13 (lv_at hl 6 rfl) ?_
      refine lv_iload_n X.1 X.2.1 dX12_feed_15 rfl (lv_at hl 1 rfl) ?_
      refine lv_iload_n X.1 X.2.1 dX12_feed_16 rfl (lv_at hl 2 rfl) ?_
      refine lv_iload_n X.1 X.2.1 dX12_feed_17 rfl (lv_at hl 3 rfl) ?_
      refine lv_iload X.1 X.2.1 dX12_feed_18 (lv_at hl 4 rfl) ?_
      refine lv_iload X.1 X.2.1 dX12_feed_20 (lv_at hl 5 rfl) ?_
      refine lv_iload X.1 X.2.1 dX12_feed_22 (lv_at hl 7 rfl) ?_
      refine r_ei I (r_runS X I pk_X12_byteOf (c12_byteOf l G _ _ _ _ _ _ _ _) lm_X12_108 rfl hl.1 rfl (Nat.le_of_ble_eq_true rfl) dX12_feed_24 ⟨Nat.le_of_ble_eq_true rfl, Nat.le_of_ble_eq_true rfl⟩ ⟨Nat.le_refl 0, Nat.le_refl 0⟩) (fun H locs I => ?_)
      refine lv_if_eq (tgt := 34) X.1 X.2.1 dX12_feed_27 (by decide) (fun c_5 => ?_) (fun c_5 => ?_)
      · skip
        have hE := ite_t hE c_5
        have ho := ite_tP ho c_5
        refine lv_iconst (v := 0) X.1 X.2.1 dX12_feed_34 (by decide) ?_
        refine lv_iadd X.1 X.2.1 dX12_feed_35 ?_
        refine lv_istore (lv' := [(6, .int _), (0, .ref _), (1, .int _), (2, .int _), (3, .int _), (4, .int _), (5, .int _), (7, .int _)]) X.1 X.2.1 dX12_feed_36 hl (by decide) rfl (fun ls hl => ?_)
        refine lv_iinc (v := _ + 1) (lv' := [(7, .int _), (6, .int _), (0, .ref _), (1, .int _), (2, .int _), (3, .int _), (4, .int _), (5, .int _)]) X.1 X.2.1 dX12_feed_38 hl (k := 7) rfl rfl (by decide) rfl (fun ls hl => ?_)
        refine lv_goto (tgt := 6) X.1 X.2.1 dX12_feed_41 (by decide) ?_
        exact ih _ _ _ _ _ I (lv_sub hl [2, 3, 4, 5, 6, 7, 1, 0] rfl) ho (Nat.lt_of_lt_of_le (up_dec c_1) (Nat.le_of_lt_succ hm)) (hE.trans (rfl))
      · skip
        have hE := ite_f hE c_5
        have ho := ite_fP ho c_5
        refine lv_iconst (v := 1) X.1 X.2.1 dX12_feed_30 (by decide) ?_
        refine lv_goto (tgt := 35) X.1 X.2.1 dX12_feed_31 (by decide) ?_
        refine lv_iadd X.1 X.2.1 dX12_feed_35 ?_
        refine lv_istore (lv' := [(6, .int _), (0, .ref _), (1, .int _), (2, .int _), (3, .int _), (4, .int _), (5, .int _), (7, .int _)]) X.1 X.2.1 dX12_feed_36 hl (by decide) rfl (fun ls hl => ?_)
        refine lv_iinc (v := _ + 1) (lv' := [(7, .int _), (6, .int _), (0, .ref _), (1, .int _), (2, .int _), (3, .int _), (4, .int _), (5, .int _)]) X.1 X.2.1 dX12_feed_38 hl (k := 7) rfl rfl (by decide) rfl (fun ls hl => ?_)
        refine lv_goto (tgt := 6) X.1 X.2.1 dX12_feed_41 (by decide) ?_
        exact ih _ _ _ _ _ I (lv_sub hl [2, 3, 4, 5, 6, 7, 1, 0] rfl) ho (Nat.lt_of_lt_of_le (up_dec c_1) (Nat.le_of_lt_succ hm)) (hE.trans (rfl))
set_option maxHeartbeats 4000000 in
set_option maxRecDepth 100000 in
theorem c12_feed (l : Launch) (G : GT) (σ : SI) (τ : SL) (x1 : Int32) (x2 : Int32) (x3 : Int32) (x4 : Int32) (x5 : Int32) (ho : o12_feed σ x1 x2 x3 x4 x5) : Mc l yX12_feed cX12_feed 9 (some .int) 1 G [.ref (G.2.1 123), .int x1, .int x2, .int x3, .int x4, .int x5] σ τ (Qi G (Ei (f12_feed σ x1 x2 x3 x4 x5).1 (f12_feed σ x1 x2 x3 x4 x5).2 τ)) := by
  refine m_start (by decide +kernel) (Nat.le_of_ble_eq_true rfl) rfl (fun p e s m args below meth c ls X I hl => ?_)
  have hl : lv_has ls 9 [(0, .ref (G.2.1 123)), (1, .int x1), (2, .int x2), (3, .int x3), (4, .int x4), (5, .int x5)] := hl
  obtain ⟨E, hE⟩ : ∃ E, E = (f12_feed σ x1 x2 x3 x4 x5) := ⟨_, rfl⟩
  rw [← hE]
  unfold o12_feed at ho
  refine lv_iconst (v := 0) X.1 X.2.1 dX12_feed_0 (by decide) ?_
  refine lv_istore (lv' := [(6, .int _), (0, .ref _), (1, .int _), (2, .int _), (3, .int _), (4, .int _), (5, .int _)]) X.1 X.2.1 dX12_feed_1 hl (by decide) rfl (fun ls hl => ?_)
  refine lv_iconst (v := 0) X.1 X.2.1 dX12_feed_3 (by decide) ?_
  refine lv_istore (lv' := [(7, .int _), (6, .int _), (0, .ref _), (1, .int _), (2, .int _), (3, .int _), (4, .int _), (5, .int _)]) X.1 X.2.1 dX12_feed_4 hl (by decide) rfl (fun ls hl => ?_)
  exact c12_feed_c6 X _ _ _ _ _ _ _ _ _ _ _ _ _ I (lv_sub hl [2, 3, 4, 5, 6, 7, 1, 0] rfl) ho (fu1_lt _) (hE.trans (rfl))
