noncomputable def f12_isWhole_c33 (σ : SI) (x2 : Int32) (K : Bool → Int32 → Bool) : Nat → Bool → Int32 → Bool
  | 0, v1, v3 => (K v1 v3)
  | fu + 1, v1, v3 => if x2 ≤ v3 then (K v1 v3) else (if v1 = true then (if (σ 135 (Int32.toNatClampNeg (((4 : Int32) * v3) + (0 : Int32)))) = (σ 135 (Int32.toNatClampNeg (((4 : Int32) * x2) + (0 : Int32)))) then (if (σ 135 (Int32.toNatClampNeg (((4 : Int32) * v3) + (1 : Int32)))) = (σ 135 (Int32.toNatClampNeg (((4 : Int32) * x2) + (1 : Int32)))) then (f12_isWhole_c33 σ x2 K fu false (v3 + 1)) else (f12_isWhole_c33 σ x2 K fu true (v3 + 1))) else (f12_isWhole_c33 σ x2 K fu true (v3 + 1))) else (f12_isWhole_c33 σ x2 K fu false (v3 + 1)))
noncomputable def o12_isWhole_c33 (σ : SI) (x2 : Int32) (oK : Bool → Int32 → Prop) : Nat → Bool → Int32 → Prop
  | 0, _, _ => True
  | fu + 1, v1, v3 => if x2 ≤ v3 then (oK v1 v3) else (if v1 = true then ((vp_in (((4 : Int32) * v3) + (0 : Int32)) 28) ∧ ((vp_in (((4 : Int32) * x2) + (0 : Int32)) 28) ∧ (if (σ 135 (Int32.toNatClampNeg (((4 : Int32) * v3) + (0 : Int32)))) = (σ 135 (Int32.toNatClampNeg (((4 : Int32) * x2) + (0 : Int32)))) then ((vp_in (((4 : Int32) * v3) + (1 : Int32)) 28) ∧ ((vp_in (((4 : Int32) * x2) + (1 : Int32)) 28) ∧ (if (σ 135 (Int32.toNatClampNeg (((4 : Int32) * v3) + (1 : Int32)))) = (σ 135 (Int32.toNatClampNeg (((4 : Int32) * x2) + (1 : Int32)))) then (o12_isWhole_c33 σ x2 oK fu false (v3 + 1)) else (o12_isWhole_c33 σ x2 oK fu true (v3 + 1))))) else (o12_isWhole_c33 σ x2 oK fu true (v3 + 1))))) else (o12_isWhole_c33 σ x2 oK fu false (v3 + 1)))
noncomputable def f12_isWhole_c23 (σ : SI) : Nat → Bool → Int32 → Bool
  | 0, _, _ => false
  | fu + 1, v1, v2 => if (σ 123 20) ≤ v2 then v1 else (f12_isWhole_c33 σ v2 (fun (y1_1 : Bool) (y1_3 : Int32) => (f12_isWhole_c23 σ fu y1_1 (v2 + 1))) (fu1 ((Int32.toInt v2 - Int32.toInt (0 : Int32)).toNat)) v1 (0 : Int32))
noncomputable def o12_isWhole_c23 (σ : SI) : Nat → Bool → Int32 → Prop
  | 0, _, _ => True
  | fu + 1, v1, v2 => if (σ 123 20) ≤ v2 then True else (o12_isWhole_c33 σ v2 (fun (y1_1 : Bool) (y1_3 : Int32) => (o12_isWhole_c23 σ fu y1_1 (v2 + 1))) (fu1 ((Int32.toInt v2 - Int32.toInt (0 : Int32)).toNat)) v1 (0 : Int32))
noncomputable def f12_isWhole (σ : SI) : Bool := if (σ 123 20) ≤ (1 : Int32) then (f12_isWhole_c23 σ (fu1 ((Int32.toInt (σ 123 20) - Int32.toInt (0 : Int32)).toNat)) false (0 : Int32)) else (if (σ 123 21) ≤ (0 : Int32) then (f12_isWhole_c23 σ (fu1 ((Int32.toInt (σ 123 20) - Int32.toInt (0 : Int32)).toNat)) false (0 : Int32)) else (f12_isWhole_c23 σ (fu1 ((Int32.toInt (σ 123 20) - Int32.toInt (0 : Int32)).toNat)) true (0 : Int32)))
noncomputable def o12_isWhole (σ : SI) : Prop := if (σ 123 20) ≤ (1 : Int32) then (o12_isWhole_c23 σ (fu1 ((Int32.toInt (σ 123 20) - Int32.toInt (0 : Int32)).toNat)) false (0 : Int32)) else (if (σ 123 21) ≤ (0 : Int32) then (o12_isWhole_c23 σ (fu1 ((Int32.toInt (σ 123 20) - Int32.toInt (0 : Int32)).toNat)) false (0 : Int32)) else (o12_isWhole_c23 σ (fu1 ((Int32.toInt (σ 123 20) - Int32.toInt (0 : Int32)).toNat)) true (0 : Int32)))
set_option maxHeartbeats 4000000 in
set_option maxRecDepth 100000 in
theorem c12_isWhole_c33 {l : Launch} {p : Program} {e : Env} {s : State} {m : MethodId} {args : Array Value} {below : List Frame} {meth : Method} {c : Code} {G : GT} (X : CX p s m args meth c cX12_isWhole RX12 4 (some .boolean) G) {E : Bool} (σ : SI) (τ : SL) (x2 : Int32) {oK : Bool → Int32 → Prop} {K : Bool → Int32 → Bool} (hK : ∀ (v1 : Bool) (v3 : Int32) (H : Heap) (locs : List Loc) (ls : Array Slot), IX G s H locs σ τ → lv_has ls 4 [(0, .ref (G.2.1 123)), (1, .int (b2i v1)), (2, .int x2), (3, .int v3)] → oK v1 v3 → E = K v1 v3 → W p l e (rmN 0) s m args below meth c H locs 0 0 (MQ below ((Qi G (Ei (b2i E) σ τ)) s.heap.size) args s 0 0 (AW G s.heap.size)) (F0 m 100 ls [])) : ∀ (fu : Nat) (v1 : Bool) (v3 : Int32) (H : Heap) (locs : List Loc) (ls : Array Slot), IX G s H locs σ τ → lv_has ls 4 [(0, .ref (G.2.1 123)), (1, .int (b2i v1)), (2, .int x2), (3, .int v3)] → (o12_isWhole_c33 σ x2 oK fu v1 v3) → (Int32.toInt x2 - Int32.toInt v3).toNat < fu → E = (f12_isWhole_c33 σ x2 K fu v1 v3) → W p l e (rmN 0) s m args below meth c H locs 0 0 (MQ below ((Qi G (Ei (b2i E) σ τ)) s.heap.size) args s 0 0 (AW G s.heap.size)) (F0 m 33 ls []) := by
  intro fu
  induction fu with
  | zero =>
    intro v1 v3 H locs ls I hl  ho hm hE
    exact absurd hm (Nat.not_lt_zero _)
  | succ fu ih =>
    intro v1 v3 H locs ls I hl  ho hm hE
    unfold o12_isWhole_c33 at ho
    refine lv_iload_n X.1 X.2.1 dX12_isWhole_33 rfl (lv_at hl 3 rfl) ?_
    refine lv_iload_n X.1 X.2.1 dX12_isWhole_34 rfl (lv_at hl 2 rfl) ?_
    refine lv_icmp_ge (tgt := 100) X.1 X.2.1 dX12_isWhole_35 (by decide) (fun c_3 => ?_) (fun c_3 => ?_)
    · skip
      have hE := ite_t hE c_3
      have ho := ite_tP ho c_3
      exact hK _ _ _ _ _ I (lv_sub hl [0, 1, 2, 3] rfl) ho (hE.trans (rfl))
    · skip
      have hE := ite_f hE c_3
      have ho := ite_fP ho c_3
      refine lv_iload_n X.1 X.2.1 dX12_isWhole_38 rfl (lv_at hl 1 rfl) ?_
      refine lv_if_eq (tgt := 92) X.1 X.2.1 dX12_isWhole_39 (by decide) (fun c_4 => ?_) (fun c_4 => ?_)
      · skip
        have hE := ite_f hE (b2i_n c_4)
        have ho := ite_fP ho (b2i_n c_4)
        refine lv_iconst (v := 0) X.1 X.2.1 dX12_isWhole_92 (by decide) ?_
        refine lv_istore_n (lv' := [(1, .int _), (0, .ref _), (2, .int _), (3, .int _)]) X.1 X.2.1 dX12_isWhole_93 rfl hl (by decide) rfl (fun ls hl => ?_)
        refine lv_iinc (v := _ + 1) (lv' := [(3, .int _), (1, .int _), (0, .ref _), (2, .int _)]) X.1 X.2.1 dX12_isWhole_94 hl (k := 3) rfl rfl (by decide) rfl (fun ls hl => ?_)
        refine lv_goto (tgt := 33) X.1 X.2.1 dX12_isWhole_97 (by decide) ?_
        exact ih false _ _ _ _ I (lv_sub hl [2, 1, 3, 0] rfl) ho (Nat.lt_of_lt_of_le (up_dec c_3) (Nat.le_of_lt_succ hm)) (hE.trans (rfl))
      · skip
        have hE := ite_t hE (b2i_y c_4)
        have ho := ite_tP ho (b2i_y c_4)
        refine lv_aload_n X.1 X.2.1 dX12_isWhole_42 rfl (lv_at hl 0 rfl) ?_
        refine g12_18 X I (k := 123) (by decide) rfl lf_X12_43 dX12_isWhole_43 ?_
        refine lv_iconst (v := 4) X.1 X.2.1 dX12_isWhole_46 (by decide) ?_
        refine lv_iload_n X.1 X.2.1 dX12_isWhole_47 rfl (lv_at hl 3 rfl) ?_
        refine lv_imul X.1 X.2.1 dX12_isWhole_48 ?_
        refine lv_iconst (v := 0) X.1 X.2.1 dX12_isWhole_49 (by decide) ?_
        refine lv_iadd X.1 X.2.1 dX12_isWhole_50 ?_
        have ho1 := ho.1
        have ho := ho.2
        refine r_ald X I (k := 135) (n := 28) (by decide) rfl ho1 dX12_isWhole_51 ?_
        refine lv_aload_n X.1 X.2.1 dX12_isWhole_52 rfl (lv_at hl 0 rfl) ?_
        refine g12_18 X I (k := 123) (by decide) rfl lf_X12_43 dX12_isWhole_53 ?_
        refine lv_iconst (v := 4) X.1 X.2.1 dX12_isWhole_56 (by decide) ?_
        refine lv_iload_n X.1 X.2.1 dX12_isWhole_57 rfl (lv_at hl 2 rfl) ?_
        refine lv_imul X.1 X.2.1 dX12_isWhole_58 ?_
        refine lv_iconst (v := 0) X.1 X.2.1 dX12_isWhole_59 (by decide) ?_
        refine lv_iadd X.1 X.2.1 dX12_isWhole_60 ?_
        have ho2 := ho.1
        have ho := ho.2
        refine r_ald X I (k := 135) (n := 28) (by decide) rfl ho2 dX12_isWhole_61 ?_
        refine lv_icmp_ne (tgt := 88) X.1 X.2.1 dX12_isWhole_62 (by decide) (fun c_5 => ?_) (fun c_5 => ?_)
        · skip
          have hE := ite_f hE c_5
          have ho := ite_fP ho c_5
          refine lv_iconst (v := 1) X.1 X.2.1 dX12_isWhole_88 (by decide) ?_
          refine lv_goto (tgt := 93) X.1 X.2.1 dX12_isWhole_89 (by decide) ?_
          refine lv_istore_n (lv' := [(1, .int _), (0, .ref _), (2, .int _), (3, .int _)]) X.1 X.2.1 dX12_isWhole_93 rfl hl (by decide) rfl (fun ls hl => ?_)
          refine lv_iinc (v := _ + 1) (lv' := [(3, .int _), (1, .int _), (0, .ref _), (2, .int _)]) X.1 X.2.1 dX12_isWhole_94 hl (k := 3) rfl rfl (by decide) rfl (fun ls hl => ?_)
          refine lv_goto (tgt := 33) X.1 X.2.1 dX12_isWhole_97 (by decide) ?_
          exact ih true _ _ _ _ I (lv_sub hl [2, 1, 3, 0] rfl) ho (Nat.lt_of_lt_of_le (up_dec c_3) (Nat.le_of_lt_succ hm)) (hE.trans (rfl))
        · skip
          have hE := ite_t hE c_5
          have ho := ite_tP ho c_5
          refine lv_aload_n X.1 X.2.1 dX12_isWhole_65 rfl (lv_at hl 0 rfl) ?_
          refine g12_18 X I (k := 123) (by decide) rfl lf_X12_43 dX12_isWhole_66 ?_
          refine lv_iconst (v := 4) X.1 X.2.1 dX12_isWhole_69 (by decide) ?_
          refine lv_iload_n X.1 X.2.1 dX12_isWhole_70 rfl (lv_at hl 3 rfl) ?_
          refine lv_imul X.1 X.2.1 dX12_isWhole_71 ?_
          refine lv_iconst (v := 1) X.1 X.2.1 dX12_isWhole_72 (by decide) ?_
          refine lv_iadd X.1 X.2.1 dX12_isWhole_73 ?_
          have ho3 := ho.1
          have ho := ho.2
          refine r_ald X I (k := 135) (n := 28) (by decide) rfl ho3 dX12_isWhole_74 ?_
          refine lv_aload_n X.1 X.2.1 dX12_isWhole_75 rfl (lv_at hl 0 rfl) ?_
          refine g12_18 X I (k := 123) (by decide) rfl lf_X12_43 dX12_isWhole_76 ?_
          refine lv_iconst (v := 4) X.1 X.2.1 dX12_isWhole_79 (by decide) ?_
          refine lv_iload_n X.1 X.2.1 dX12_isWhole_80 rfl (lv_at hl 2 rfl) ?_
          refine lv_imul X.1 X.2.1 dX12_isWhole_81 ?_
          refine lv_iconst (v := 1) X.1 X.2.1 dX12_isWhole_82 (by decide) ?_
          refine lv_iadd X.1 X.2.1 dX12_isWhole_83 ?_
          have ho4 := ho.1
          have ho := ho.2
          refine r_ald X I (k := 135) (n := 28) (by decide) rfl ho4 dX12_isWhole_84 ?_
          refine lv_icmp_eq (tgt := 92) X.1 X.2.1 dX12_isWhole_85 (by decide) (fun c_6 => ?_) (fun c_6 => ?_)
          · skip
            have hE := ite_t hE c_6
            have ho := ite_tP ho c_6
            refine lv_iconst (v := 0) X.1 X.2.1 dX12_isWhole_92 (by decide) ?_
            refine lv_istore_n (lv' := [(1, .int _), (0, .ref _), (2, .int _), (3, .int _)]) X.1 X.2.1 dX12_isWhole_93 rfl hl (by decide) rfl (fun ls hl => ?_)
            refine lv_iinc (v := _ + 1) (lv' := [(3, .int _), (1, .int _), (0, .ref _), (2, .int _)]) X.1 X.2.1 dX12_isWhole_94 hl (k := 3) rfl rfl (by decide) rfl (fun ls hl => ?_)
            refine lv_goto (tgt := 33) X.1 X.2.1 dX12_isWhole_97 (by decide) ?_
            exact ih false _ _ _ _ I (lv_sub hl [2, 1, 3, 0] rfl) ho (Nat.lt_of_lt_of_le (up_dec c_3) (Nat.le_of_lt_succ hm)) (hE.trans (rfl))
          · skip
            have hE := ite_f hE c_6
            have ho := ite_fP ho c_6
            refine lv_iconst (v := 1) X.1 X.2.1 dX12_isWhole_88 (by decide) ?_
            refine lv_goto (tgt := 93) X.1 X.2.1 dX12_isWhole_89 (by decide) ?_
            refine lv_istore_n (lv' := [(1, .int _), (0, .ref _), (2, .int _), (3, .int _)]) X.1 X.2.1 dX12_isWhole_93 rfl hl (by decide) rfl (fun ls hl => ?_)
            refine lv_iinc (v := _ + 1) (lv' := [(3, .int _), (1, .int _), (0, .ref _), (2, .int _)]) X.1 X.2.1 dX12_isWhole_94 hl (k := 3) rfl rfl (by decide) rfl (fun ls hl => ?_)
            refine lv_goto (tgt := 33) X.1 X.2.1 dX12_isWhole_97 (by decide) ?_
            exact ih true _ _ _ _ I (lv_sub hl [2, 1, 3, 0] rfl) ho (Nat.lt_of_lt_of_le (up_dec c_3) (Nat.le_of_lt_succ hm)) (hE.trans (rfl))
set_option maxHeartbeats 4000000 in
set_option maxRecDepth 100000 in
theorem c12_isWhole_c23 {l : Launch} {p : Program} {e : Env} {s : State} {m : MethodId} {args : Array Value} {below : List Frame} {meth : Method} {c : Code} {G : GT} (X : CX p s m args meth c cX12_isWhole RX12 4 (some .boolean) G) {E : Bool} (σ : SI) (τ : SL) : ∀ (fu : Nat) (v1 : Bool) (v2 : Int32) (H : Heap) (locs : List Loc) (ls : Array Slot), IX G s H locs σ τ → lv_has ls 4 [(0, .ref (G.2.1 123)), (1, .int (b2i v1)), (2, .int v2)] → (o12_isWhole_c23 σ fu v1 v2) → (Int32.toInt (σ 123 20) - Int32.toInt v2).toNat < fu → E = (f12_isWhole_c23 σ fu v1 v2) → W p l e (rmN 0) s m args below meth c H locs 0 0 (MQ below ((Qi G (Ei (b2i E) σ τ)) s.heap.size) args s 0 0 (AW G s.heap.size)) (F0 m 23 ls []) := by
  intro fu
  induction fu with
  | zero =>
    intro v1 v2 H locs ls I hl  ho hm hE
    exact absurd hm (Nat.not_lt_zero _)
  | succ fu ih =>
    intro v1 v2 H locs ls I hl  ho hm hE
    unfold o12_isWhole_c23 at ho
    refine lv_iload_n X.1 X.2.1 dX12_isWhole_23 rfl (lv_at hl 2 rfl) ?_
    refine lv_aload_n X.1 X.2.1 dX12_isWhole_24 rfl (lv_at hl 0 rfl) ?_
    refine g12_20 X I (k := 123) (by decide) rfl lf_X12_244 dX12_isWhole_25 ?_
    refine lv_icmp_ge (tgt := 106) X.1 X.2.1 dX12_isWhole_28 (by decide) (fun c_2 => ?_) (fun c_2 => ?_)
    · skip
      have hE := ite_t hE c_2
      have ho := ite_tP ho c_2
      refine lv_iload_n X.1 X.2.1 dX12_isWhole_106 rfl (lv_at hl 1 rfl) ?_
      have h9 := hE
      exact r_zret X I (b2i_nar _) (e_i (congrArg b2i h9).symm rfl rfl) dX12_isWhole_107
    · skip
      have hE := ite_f hE c_2
      have ho := ite_fP ho c_2
      refine lv_iconst (v := 0) X.1 X.2.1 dX12_isWhole_31 (by decide) ?_
      refine lv_istore_n (lv' := [(3, .int _), (0, .ref _), (1, .int _), (2, .int _)]) X.1 X.2.1 dX12_isWhole_32 rfl hl (by decide) rfl (fun ls hl => ?_)
      refine c12_isWhole_c33 X _ _ _ (fun y1_1 y1_3 H locs ls I hl ho hE => ?_) _ _ _ _ _ _ I (lv_sub hl [1, 2, 3, 0] rfl) ho (fu1_lt _) (hE.trans (rfl))
      refine lv_iinc (v := _ + 1) (lv' := [(2, .int _), (0, .ref _), (1, .int _), (3, .int _)]) X.1 X.2.1 dX12_isWhole_100 hl (k := 2) rfl rfl (by decide) rfl (fun ls hl => ?_)
      refine lv_goto (tgt := 23) X.1 X.2.1 dX12_isWhole_103 (by decide) ?_
      exact ih _ _ _ _ _ I (lv_sub hl [1, 2, 0] rfl) ho (Nat.lt_of_lt_of_le (up_dec c_2) (Nat.le_of_lt_succ hm)) (hE.trans (rfl))
set_option maxHeartbeats 4000000 in
set_option maxRecDepth 100000 in
theorem c12_isWhole (l : Launch) (G : GT) (σ : SI) (τ : SL) (ho : o12_isWhole σ) : Mc l yX12_isWhole cX12_isWhole 4 (some .boolean) 0 G [.ref (G.2.1 123)] σ τ (Qi G (Ei (b2i (f12_isWhole σ)) σ τ)) := by
  refine m_start (by decide +kernel) (Nat.le_of_ble_eq_true rfl) rfl (fun p e s m args below meth c ls X I hl => ?_)
  have hl : lv_has ls 4 [(0, .ref (G.2.1 123))] := hl
  obtain ⟨E, hE⟩ : ∃ E, E = (f12_isWhole σ) := ⟨_, rfl⟩
  rw [← hE]
  unfold o12_isWhole at ho
  refine lv_aload_n X.1 X.2.1 dX12_isWhole_0 rfl (lv_at hl 0 rfl) ?_
  refine g12_20 X I (k := 123) (by decide) rfl lf_X12_244 dX12_isWhole_1 ?_
  refine lv_iconst (v := 1) X.1 X.2.1 dX12_isWhole_4 (by decide) ?_
  refine lv_icmp_le (tgt := 19) X.1 X.2.1 dX12_isWhole_5 (by decide) (fun c_1 => ?_) (fun c_1 => ?_)
  · skip
    have hE := ite_t hE c_1
    have ho := ite_tP ho c_1
    refine lv_iconst (v := 0) X.1 X.2.1 dX12_isWhole_19 (by decide) ?_
    refine lv_istore_n (lv' := [(1, .int _), (0, .ref _)]) X.1 X.2.1 dX12_isWhole_20 rfl hl (by decide) rfl (fun ls hl => ?_)
    refine lv_iconst (v := 0) X.1 X.2.1 dX12_isWhole_21 (by decide) ?_
    refine lv_istore_n (lv' := [(2, .int _), (1, .int _), (0, .ref _)]) X.1 X.2.1 dX12_isWhole_22 rfl hl (by decide) rfl (fun ls hl => ?_)
    exact c12_isWhole_c23 X _ _  _ false _ _ _ _ I (lv_sub hl [2, 1, 0] rfl) ho (fu1_lt _) (hE.trans (rfl))
  · skip
    have hE := ite_f hE c_1
    have ho := ite_fP ho c_1
    refine lv_aload_n X.1 X.2.1 dX12_isWhole_8 rfl (lv_at hl 0 rfl) ?_
    refine g12_21 X I (k := 123) (by decide) rfl lf_X12_247 dX12_isWhole_9 ?_
    refine lv_if_le (tgt := 19) X.1 X.2.1 dX12_isWhole_12 (by decide) (fun c_7 => ?_) (fun c_7 => ?_)
    · skip
      have hE := ite_t hE c_7
      have ho := ite_tP ho c_7
      refine lv_iconst (v := 0) X.1 X.2.1 dX12_isWhole_19 (by decide) ?_
      refine lv_istore_n (lv' := [(1, .int _), (0, .ref _)]) X.1 X.2.1 dX12_isWhole_20 rfl hl (by decide) rfl (fun ls hl => ?_)
      refine lv_iconst (v := 0) X.1 X.2.1 dX12_isWhole_21 (by decide) ?_
      refine lv_istore_n (lv' := [(2, .int _), (1, .int _), (0, .ref _)]) X.1 X.2.1 dX12_isWhole_22 rfl hl (by decide) rfl (fun ls hl => ?_)
      exact c12_isWhole_c23 X _ _  _ false _ _ _ _ I (lv_sub hl [2, 1, 0] rfl) ho (fu1_lt _) (hE.trans (rfl))
    · skip
      have hE := ite_f hE c_7
      have ho := ite_fP ho c_7
      refine lv_iconst (v := 1) X.1 X.2.1 dX12_isWhole_15 (by decide) ?_
      refine lv_goto (tgt := 20) X.1 X.2.1 dX12_isWhole_16 (by decide) ?_
      refine lv_istore_n (lv' := [(1, .int _), (0, .ref _)]) X.1 X.2.1 dX12_isWhole_20 rfl hl (by decide) rfl (fun ls hl => ?_)
      refine lv_iconst (v := 0) X.1 X.2.1 dX12_isWhole_21 (by decide) ?_
      refine lv_istore_n (lv' := [(2, .int _), (1, .int _), (0, .ref _)]) X.1 X.2.1 dX12_isWhole_22 rfl hl (by decide) rfl (fun ls hl => ?_)
      exact c12_isWhole_c23 X _ _  _ true _ _ _ _ I (lv_sub hl [2, 1, 0] rfl) ho (fu1_lt _) (hE.trans (rfl))
noncomputable def f12_readTown_c49 (K : Bool → Bool → SI → (Int32 × SI)) : Nat → Bool → Bool → SI → (Int32 × SI)
  | 0, v1, v2, σ => (K v1 v2 σ)
  | fu + 1, v1, v2, σ => if v2 = true then (if (σ 123 4) = (-1 : Int32) then (let r4 := (f12_look σ); if r4.1 = (115 : Int32) then (if v1 = true then (if r4.1 = (104 : Int32) then (if (7 : Int32) ≤ (r4.2 123 20) then (if r4.1 = (98 : Int32) then (if (5 : Int32) ≤ (r4.2 123 21) then (let s68 := (f12_bad r4.2); if (s68 123 4) = (-1 : Int32) then (let r70 := (f12_look s68); if r70.1 = (59 : Int32) then (let s72 := sp r70.2 123 3 ((r70.2 123 3) + (1 : Int32)); (f12_readTown_c49 K fu v1 true s72)) else (let s71 := sp r70.2 123 3 ((r70.2 123 3) + (0 : Int32)); (f12_readTown_c49 K fu v1 false s71))) else (let s69 := sp s68 123 3 ((s68 123 3) + (0 : Int32)); (f12_readTown_c49 K fu v1 false s69))) else (let s73 := sp r4.2 123 3 ((r4.2 123 3) + (1 : Int32)); let s74 := (f12_items 136 5 s73 r4.1 (r4.2 123 21) (1 : Int32)); let s75 := sp s74 123 21 ((s74 123 21) + (1 : Int32)); if (s74 123 4) = (-1 : Int32) then (let r77 := (f12_look s75); if r77.1 = (59 : Int32) then (let s79 := sp r77.2 123 3 ((r77.2 123 3) + (1 : Int32)); (f12_readTown_c49 K fu v1 true s79)) else (let s78 := sp r77.2 123 3 ((r77.2 123 3) + (0 : Int32)); (f12_readTown_c49 K fu v1 false s78))) else (let s76 := sp s75 123 3 ((s74 123 3) + (0 : Int32)); (f12_readTown_c49 K fu v1 false s76)))) else (let s63 := (f12_bad r4.2); if (s63 123 4) = (-1 : Int32) then (let r65 := (f12_look s63); if r65.1 = (59 : Int32) then (let s67 := sp r65.2 123 3 ((r65.2 123 3) + (1 : Int32)); (f12_readTown_c49 K fu v1 true s67)) else (let s66 := sp r65.2 123 3 ((r65.2 123 3) + (0 : Int32)); (f12_readTown_c49 K fu v1 false s66))) else (let s64 := sp s63 123 3 ((s63 123 3) + (0 : Int32)); (f12_readTown_c49 K fu v1 false s64)))) else (let s80 := sp r4.2 123 3 ((r4.2 123 3) + (1 : Int32)); let s81 := (f12_items 135 28 s80 r4.1 ((4 : Int32) * (r4.2 123 20)) (4 : Int32)); let s82 := sp s81 123 20 ((s81 123 20) + (1 : Int32)); if (s81 123 4) = (-1 : Int32) then (let r84 := (f12_look s82); if r84.1 = (59 : Int32) then (let s86 := sp r84.2 123 3 ((r84.2 123 3) + (1 : Int32)); (f12_readTown_c49 K fu v1 true s86)) else (let s85 := sp r84.2 123 3 ((r84.2 123 3) + (0 : Int32)); (f12_readTown_c49 K fu v1 false s85))) else (let s83 := sp s82 123 3 ((s81 123 3) + (0 : Int32)); (f12_readTown_c49 K fu v1 false s83)))) else (if r4.1 = (98 : Int32) then (if (5 : Int32) ≤ (r4.2 123 21) then (let s51 := (f12_bad r4.2); if (s51 123 4) = (-1 : Int32) then (let r53 := (f12_look s51); if r53.1 = (59 : Int32) then (let s55 := sp r53.2 123 3 ((r53.2 123 3) + (1 : Int32)); (f12_readTown_c49 K fu v1 true s55)) else (let s54 := sp r53.2 123 3 ((r53.2 123 3) + (0 : Int32)); (f12_readTown_c49 K fu v1 false s54))) else (let s52 := sp s51 123 3 ((s51 123 3) + (0 : Int32)); (f12_readTown_c49 K fu v1 false s52))) else (let s56 := sp r4.2 123 3 ((r4.2 123 3) + (1 : Int32)); let s57 := (f12_items 136 5 s56 r4.1 (r4.2 123 21) (1 : Int32)); let s58 := sp s57 123 21 ((s57 123 21) + (1 : Int32)); if (s57 123 4) = (-1 : Int32) then (let r60 := (f12_look s58); if r60.1 = (59 : Int32) then (let s62 := sp r60.2 123 3 ((r60.2 123 3) + (1 : Int32)); (f12_readTown_c49 K fu v1 true s62)) else (let s61 := sp r60.2 123 3 ((r60.2 123 3) + (0 : Int32)); (f12_readTown_c49 K fu v1 false s61))) else (let s59 := sp s58 123 3 ((s57 123 3) + (0 : Int32)); (f12_readTown_c49 K fu v1 false s59)))) else (let s46 := (f12_bad r4.2); if (s46 123 4) = (-1 : Int32) then (let r48 := (f12_look s46); if r48.1 = (59 : Int32) then (let s50 := sp r48.2 123 3 ((r48.2 123 3) + (1 : Int32)); (f12_readTown_c49 K fu v1 true s50)) else (let s49 := sp r48.2 123 3 ((r48.2 123 3) + (0 : Int32)); (f12_readTown_c49 K fu v1 false s49))) else (let s47 := sp s46 123 3 ((s46 123 3) + (0 : Int32)); (f12_readTown_c49 K fu v1 false s47))))) else (let s87 := sp r4.2 123 3 ((r4.2 123 3) + (1 : Int32)); let s88 := (f12_items 134 3 s87 r4.1 (0 : Int32) (3 : Int32)); if (s88 123 4) = (-1 : Int32) then (let r90 := (f12_look s88); if r90.1 = (59 : Int32) then (let s92 := sp r90.2 123 3 ((r90.2 123 3) + (1 : Int32)); (f12_readTown_c49 K fu true true s92)) else (let s91 := sp r90.2 123 3 ((r90.2 123 3) + (0 : Int32)); (f12_readTown_c49 K fu true false s91))) else (let s89 := sp s88 123 3 ((s88 123 3) + (0 : Int32)); (f12_readTown_c49 K fu true false s89)))) else (if r4.1 = (104 : Int32) then (if (7 : Int32) ≤ (r4.2 123 20) then (if r4.1 = (98 : Int32) then (if (5 : Int32) ≤ (r4.2 123 21) then (let s27 := (f12_bad r4.2); if (s27 123 4) = (-1 : Int32) then (let r29 := (f12_look s27); if r29.1 = (59 : Int32) then (let s31 := sp r29.2 123 3 ((r29.2 123 3) + (1 : Int32)); (f12_readTown_c49 K fu v1 true s31)) else (let s30 := sp r29.2 123 3 ((r29.2 123 3) + (0 : Int32)); (f12_readTown_c49 K fu v1 false s30))) else (let s28 := sp s27 123 3 ((s27 123 3) + (0 : Int32)); (f12_readTown_c49 K fu v1 false s28))) else (let s32 := sp r4.2 123 3 ((r4.2 123 3) + (1 : Int32)); let s33 := (f12_items 136 5 s32 r4.1 (r4.2 123 21) (1 : Int32)); let s34 := sp s33 123 21 ((s33 123 21) + (1 : Int32)); if (s33 123 4) = (-1 : Int32) then (let r36 := (f12_look s34); if r36.1 = (59 : Int32) then (let s38 := sp r36.2 123 3 ((r36.2 123 3) + (1 : Int32)); (f12_readTown_c49 K fu v1 true s38)) else (let s37 := sp r36.2 123 3 ((r36.2 123 3) + (0 : Int32)); (f12_readTown_c49 K fu v1 false s37))) else (let s35 := sp s34 123 3 ((s33 123 3) + (0 : Int32)); (f12_readTown_c49 K fu v1 false s35)))) else (let s22 := (f12_bad r4.2); if (s22 123 4) = (-1 : Int32) then (let r24 := (f12_look s22); if r24.1 = (59 : Int32) then (let s26 := sp r24.2 123 3 ((r24.2 123 3) + (1 : Int32)); (f12_readTown_c49 K fu v1 true s26)) else (let s25 := sp r24.2 123 3 ((r24.2 123 3) + (0 : Int32)); (f12_readTown_c49 K fu v1 false s25))) else (let s23 := sp s22 123 3 ((s22 123 3) + (0 : Int32)); (f12_readTown_c49 K fu v1 false s23)))) else (let s39 := sp r4.2 123 3 ((r4.2 123 3) + (1 : Int32)); let s40 := (f12_items 135 28 s39 r4.1 ((4 : Int32) * (r4.2 123 20)) (4 : Int32)); let s41 := sp s40 123 20 ((s40 123 20) + (1 : Int32)); if (s40 123 4) = (-1 : Int32) then (let r43 := (f12_look s41); if r43.1 = (59 : Int32) then (let s45 := sp r43.2 123 3 ((r43.2 123 3) + (1 : Int32)); (f12_readTown_c49 K fu v1 true s45)) else (let s44 := sp r43.2 123 3 ((r43.2 123 3) + (0 : Int32)); (f12_readTown_c49 K fu v1 false s44))) else (let s42 := sp s41 123 3 ((s40 123 3) + (0 : Int32)); (f12_readTown_c49 K fu v1 false s42)))) else (if r4.1 = (98 : Int32) then (if (5 : Int32) ≤ (r4.2 123 21) then (let s10 := (f12_bad r4.2); if (s10 123 4) = (-1 : Int32) then (let r12 := (f12_look s10); if r12.1 = (59 : Int32) then (let s14 := sp r12.2 123 3 ((r12.2 123 3) + (1 : Int32)); (f12_readTown_c49 K fu v1 true s14)) else (let s13 := sp r12.2 123 3 ((r12.2 123 3) + (0 : Int32)); (f12_readTown_c49 K fu v1 false s13))) else (let s11 := sp s10 123 3 ((s10 123 3) + (0 : Int32)); (f12_readTown_c49 K fu v1 false s11))) else (let s15 := sp r4.2 123 3 ((r4.2 123 3) + (1 : Int32)); let s16 := (f12_items 136 5 s15 r4.1 (r4.2 123 21) (1 : Int32)); let s17 := sp s16 123 21 ((s16 123 21) + (1 : Int32)); if (s16 123 4) = (-1 : Int32) then (let r19 := (f12_look s17); if r19.1 = (59 : Int32) then (let s21 := sp r19.2 123 3 ((r19.2 123 3) + (1 : Int32)); (f12_readTown_c49 K fu v1 true s21)) else (let s20 := sp r19.2 123 3 ((r19.2 123 3) + (0 : Int32)); (f12_readTown_c49 K fu v1 false s20))) else (let s18 := sp s17 123 3 ((s16 123 3) + (0 : Int32)); (f12_readTown_c49 K fu v1 false s18)))) else (let s5 := (f12_bad r4.2); if (s5 123 4) = (-1 : Int32) then (let r7 := (f12_look s5); if r7.1 = (59 : Int32) then (let s9 := sp r7.2 123 3 ((r7.2 123 3) + (1 : Int32)); (f12_readTown_c49 K fu v1 true s9)) else (let s8 := sp r7.2 123 3 ((r7.2 123 3) + (0 : Int32)); (f12_readTown_c49 K fu v1 false s8))) else (let s6 := sp s5 123 3 ((s5 123 3) + (0 : Int32)); (f12_readTown_c49 K fu v1 false s6)))))) else (K v1 v2 σ)) else (K v1 v2 σ)
noncomputable def o12_readTown_c49 (oK : Bool → Bool → SI → Prop) : Nat → Bool → Bool → SI → Prop
  | 0, _, _, _ => False
  | fu + 1, v1, v2, σ => if v2 = true then (if (σ 123 4) = (-1 : Int32) then ((o12_look σ) ∧ (let r4 := (f12_look σ); if r4.1 = (115 : Int32) then (if v1 = true then (if r4.1 = (104 : Int32) then (if (7 : Int32) ≤ (r4.2 123 20) then (if r4.1 = (98 : Int32) then (if (5 : Int32) ≤ (r4.2 123 21) then (let s68 := (f12_bad r4.2); if (s68 123 4) = (-1 : Int32) then ((o12_look s68) ∧ (let r70 := (f12_look s68); if r70.1 = (59 : Int32) then (let s72 := sp r70.2 123 3 ((r70.2 123 3) + (1 : Int32)); (o12_readTown_c49 oK fu v1 true s72)) else (let s71 := sp r70.2 123 3 ((r70.2 123 3) + (0 : Int32)); (o12_readTown_c49 oK fu v1 false s71)))) else (let s69 := sp s68 123 3 ((s68 123 3) + (0 : Int32)); (o12_readTown_c49 oK fu v1 false s69))) else (let s73 := sp r4.2 123 3 ((r4.2 123 3) + (1 : Int32)); (o12_items 136 5 s73 r4.1 (r4.2 123 21) (1 : Int32)) ∧ (let s74 := (f12_items 136 5 s73 r4.1 (r4.2 123 21) (1 : Int32)); let s75 := sp s74 123 21 ((s74 123 21) + (1 : Int32)); if (s74 123 4) = (-1 : Int32) then ((o12_look s75) ∧ (let r77 := (f12_look s75); if r77.1 = (59 : Int32) then (let s79 := sp r77.2 123 3 ((r77.2 123 3) + (1 : Int32)); (o12_readTown_c49 oK fu v1 true s79)) else (let s78 := sp r77.2 123 3 ((r77.2 123 3) + (0 : Int32)); (o12_readTown_c49 oK fu v1 false s78)))) else (let s76 := sp s75 123 3 ((s74 123 3) + (0 : Int32)); (o12_readTown_c49 oK fu v1 false s76))))) else (let s63 := (f12_bad r4.2); if (s63 123 4) = (-1 : Int32) then ((o12_look s63) ∧ (let r65 := (f12_look s63); if r65.1 = (59 : Int32) then (let s67 := sp r65.2 123 3 ((r65.2 123 3) + (1 : Int32)); (o12_readTown_c49 oK fu v1 true s67)) else (let s66 := sp r65.2 123 3 ((r65.2 123 3) + (0 : Int32)); (o12_readTown_c49 oK fu v1 false s66)))) else (let s64 := sp s63 123 3 ((s63 123 3) + (0 : Int32)); (o12_readTown_c49 oK fu v1 false s64)))) else (let s80 := sp r4.2 123 3 ((r4.2 123 3) + (1 : Int32)); (o12_items 135 28 s80 r4.1 ((4 : Int32) * (r4.2 123 20)) (4 : Int32)) ∧ (let s81 := (f12_items 135 28 s80 r4.1 ((4 : Int32) * (r4.2 123 20)) (4 : Int32)); let s82 := sp s81 123 20 ((s81 123 20) + (1 : Int32)); if (s81 123 4) = (-1 : Int32) then ((o12_look s82) ∧ (let r84 := (f12_look s82); if r84.1 = (59 : Int32) then (let s86 := sp r84.2 123 3 ((r84.2 123 3) + (1 : Int32)); (o12_readTown_c49 oK fu v1 true s86)) else (let s85 := sp r84.2 123 3 ((r84.2 123 3) + (0 : Int32)); (o12_readTown_c49 oK fu v1 false s85)))) else (let s83 := sp s82 123 3 ((s81 123 3) + (0 : Int32)); (o12_readTown_c49 oK fu v1 false s83))))) else (if r4.1 = (98 : Int32) then (if (5 : Int32) ≤ (r4.2 123 21) then (let s51 := (f12_bad r4.2); if (s51 123 4) = (-1 : Int32) then ((o12_look s51) ∧ (let r53 := (f12_look s51); if r53.1 = (59 : Int32) then (let s55 := sp r53.2 123 3 ((r53.2 123 3) + (1 : Int32)); (o12_readTown_c49 oK fu v1 true s55)) else (let s54 := sp r53.2 123 3 ((r53.2 123 3) + (0 : Int32)); (o12_readTown_c49 oK fu v1 false s54)))) else (let s52 := sp s51 123 3 ((s51 123 3) + (0 : Int32)); (o12_readTown_c49 oK fu v1 false s52))) else (let s56 := sp r4.2 123 3 ((r4.2 123 3) + (1 : Int32)); (o12_items 136 5 s56 r4.1 (r4.2 123 21) (1 : Int32)) ∧ (let s57 := (f12_items 136 5 s56 r4.1 (r4.2 123 21) (1 : Int32)); let s58 := sp s57 123 21 ((s57 123 21) + (1 : Int32)); if (s57 123 4) = (-1 : Int32) then ((o12_look s58) ∧ (let r60 := (f12_look s58); if r60.1 = (59 : Int32) then (let s62 := sp r60.2 123 3 ((r60.2 123 3) + (1 : Int32)); (o12_readTown_c49 oK fu v1 true s62)) else (let s61 := sp r60.2 123 3 ((r60.2 123 3) + (0 : Int32)); (o12_readTown_c49 oK fu v1 false s61)))) else (let s59 := sp s58 123 3 ((s57 123 3) + (0 : Int32)); (o12_readTown_c49 oK fu v1 false s59))))) else (let s46 := (f12_bad r4.2); if (s46 123 4) = (-1 : Int32) then ((o12_look s46) ∧ (let r48 := (f12_look s46); if r48.1 = (59 : Int32) then (let s50 := sp r48.2 123 3 ((r48.2 123 3) + (1 : Int32)); (o12_readTown_c49 oK fu v1 true s50)) else (let s49 := sp r48.2 123 3 ((r48.2 123 3) + (0 : Int32)); (o12_readTown_c49 oK fu v1 false s49)))) else (let s47 := sp s46 123 3 ((s46 123 3) + (0 : Int32)); (o12_readTown_c49 oK fu v1 false s47))))) else (let s87 := sp r4.2 123 3 ((r4.2 123 3) + (1 : Int32)); (o12_items 134 3 s87 r4.1 (0 : Int32) (3 : Int32)) ∧ (let s88 := (f12_items 134 3 s87 r4.1 (0 : Int32) (3 : Int32)); if (s88 123 4) = (-1 : Int32) then ((o12_look s88) ∧ (let r90 := (f12_look s88); if r90.1 = (59 : Int32) then (let s92 := sp r90.2 123 3 ((r90.2 123 3) + (1 : Int32)); (o12_readTown_c49 oK fu true true s92)) else (let s91 := sp r90.2 123 3 ((r90.2 123 3) + (0 : Int32)); (o12_readTown_c49 oK fu true false s91)))) else (let s89 := sp s88 123 3 ((s88 123 3) + (0 : Int32)); (o12_readTown_c49 oK fu true false s89))))) else (if r4.1 = (104 : Int32) then (if (7 : Int32) ≤ (r4.2 123 20) then (if r4.1 = (98 : Int32) then (if (5 : Int32) ≤ (r4.2 123 21) then (let s27 := (f12_bad r4.2); if (s27 123 4) = (-1 : Int32) then ((o12_look s27) ∧ (let r29 := (f12_look s27); if r29.1 = (59 : Int32) then (let s31 := sp r29.2 123 3 ((r29.2 123 3) + (1 : Int32)); (o12_readTown_c49 oK fu v1 true s31)) else (let s30 := sp r29.2 123 3 ((r29.2 123 3) + (0 : Int32)); (o12_readTown_c49 oK fu v1 false s30)))) else (let s28 := sp s27 123 3 ((s27 123 3) + (0 : Int32)); (o12_readTown_c49 oK fu v1 false s28))) else (let s32 := sp r4.2 123 3 ((r4.2 123 3) + (1 : Int32)); (o12_items 136 5 s32 r4.1 (r4.2 123 21) (1 : Int32)) ∧ (let s33 := (f12_items 136 5 s32 r4.1 (r4.2 123 21) (1 : Int32)); let s34 := sp s33 123 21 ((s33 123 21) + (1 : Int32)); if (s33 123 4) = (-1 : Int32) then ((o12_look s34) ∧ (let r36 := (f12_look s34); if r36.1 = (59 : Int32) then (let s38 := sp r36.2 123 3 ((r36.2 123 3) + (1 : Int32)); (o12_readTown_c49 oK fu v1 true s38)) else (let s37 := sp r36.2 123 3 ((r36.2 123 3) + (0 : Int32)); (o12_readTown_c49 oK fu v1 false s37)))) else (let s35 := sp s34 123 3 ((s33 123 3) + (0 : Int32)); (o12_readTown_c49 oK fu v1 false s35))))) else (let s22 := (f12_bad r4.2); if (s22 123 4) = (-1 : Int32) then ((o12_look s22) ∧ (let r24 := (f12_look s22); if r24.1 = (59 : Int32) then (let s26 := sp r24.2 123 3 ((r24.2 123 3) + (1 : Int32)); (o12_readTown_c49 oK fu v1 true s26)) else (let s25 := sp r24.2 123 3 ((r24.2 123 3) + (0 : Int32)); (o12_readTown_c49 oK fu v1 false s25)))) else (let s23 := sp s22 123 3 ((s22 123 3) + (0 : Int32)); (o12_readTown_c49 oK fu v1 false s23)))) else (let s39 := sp r4.2 123 3 ((r4.2 123 3) + (1 : Int32)); (o12_items 135 28 s39 r4.1 ((4 : Int32) * (r4.2 123 20)) (4 : Int32)) ∧ (let s40 := (f12_items 135 28 s39 r4.1 ((4 : Int32) * (r4.2 123 20)) (4 : Int32)); let s41 := sp s40 123 20 ((s40 123 20) + (1 : Int32)); if (s40 123 4) = (-1 : Int32) then ((o12_look s41) ∧ (let r43 := (f12_look s41); if r43.1 = (59 : Int32) then (let s45 := sp r43.2 123 3 ((r43.2 123 3) + (1 : Int32)); (o12_readTown_c49 oK fu v1 true s45)) else (let s44 := sp r43.2 123 3 ((r43.2 123 3) + (0 : Int32)); (o12_readTown_c49 oK fu v1 false s44)))) else (let s42 := sp s41 123 3 ((s40 123 3) + (0 : Int32)); (o12_readTown_c49 oK fu v1 false s42))))) else (if r4.1 = (98 : Int32) then (if (5 : Int32) ≤ (r4.2 123 21) then (let s10 := (f12_bad r4.2); if (s10 123 4) = (-1 : Int32) then ((o12_look s10) ∧ (let r12 := (f12_look s10); if r12.1 = (59 : Int32) then (let s14 := sp r12.2 123 3 ((r12.2 123 3) + (1 : Int32)); (o12_readTown_c49 oK fu v1 true s14)) else (let s13 := sp r12.2 123 3 ((r12.2 123 3) + (0 : Int32)); (o12_readTown_c49 oK fu v1 false s13)))) else (let s11 := sp s10 123 3 ((s10 123 3) + (0 : Int32)); (o12_readTown_c49 oK fu v1 false s11))) else (let s15 := sp r4.2 123 3 ((r4.2 123 3) + (1 : Int32)); (o12_items 136 5 s15 r4.1 (r4.2 123 21) (1 : Int32)) ∧ (let s16 := (f12_items 136 5 s15 r4.1 (r4.2 123 21) (1 : Int32)); let s17 := sp s16 123 21 ((s16 123 21) + (1 : Int32)); if (s16 123 4) = (-1 : Int32) then ((o12_look s17) ∧ (let r19 := (f12_look s17); if r19.1 = (59 : Int32) then (let s21 := sp r19.2 123 3 ((r19.2 123 3) + (1 : Int32)); (o12_readTown_c49 oK fu v1 true s21)) else (let s20 := sp r19.2 123 3 ((r19.2 123 3) + (0 : Int32)); (o12_readTown_c49 oK fu v1 false s20)))) else (let s18 := sp s17 123 3 ((s16 123 3) + (0 : Int32)); (o12_readTown_c49 oK fu v1 false s18))))) else (let s5 := (f12_bad r4.2); if (s5 123 4) = (-1 : Int32) then ((o12_look s5) ∧ (let r7 := (f12_look s5); if r7.1 = (59 : Int32) then (let s9 := sp r7.2 123 3 ((r7.2 123 3) + (1 : Int32)); (o12_readTown_c49 oK fu v1 true s9)) else (let s8 := sp r7.2 123 3 ((r7.2 123 3) + (0 : Int32)); (o12_readTown_c49 oK fu v1 false s8)))) else (let s6 := sp s5 123 3 ((s5 123 3) + (0 : Int32)); (o12_readTown_c49 oK fu v1 false s6))))))) else (oK v1 v2 σ)) else (oK v1 v2 σ)
noncomputable def f12_readTown_c24 (x1 : Bool) : Nat → Int32 → SI → (Int32 × SI)
  | 0, _, σ => (0, σ)
  | fu + 1, v2, σ => if (3 : Int32) ≤ v2 then (f12_readTown_c49 (fun (y1_1 : Bool) (y1_2 : Bool) (σk1 : SI) => if (σk1 123 4) = (-1 : Int32) then (let r93 := (f12_look σk1); if r93.1 = (-1 : Int32) then (if (f12_isWhole r93.2) = true then ((r93.2 123 4), r93.2) else (let s95 := (f12_bad r93.2); ((s95 123 4), s95))) else (let s94 := (f12_bad r93.2); ((s94 123 4), s94))) else ((σk1 123 4), σk1)) (fu1 ((Int32.toInt (σ 123 2) - Int32.toInt (σ 123 3)).toNat + 1 + 1)) x1 true σ) else (let s96 := sp σ 134 (Int32.toNatClampNeg v2) (f12_usual (115 : Int32) v2); (f12_readTown_c24 x1 fu (v2 + 1) s96))
noncomputable def o12_readTown_c24 (x1 : Bool) : Nat → Int32 → SI → Prop
  | 0, _, _ => True
  | fu + 1, v2, σ => if (3 : Int32) ≤ v2 then (o12_readTown_c49 (fun (y1_1 : Bool) (y1_2 : Bool) (σk1 : SI) => if (σk1 123 4) = (-1 : Int32) then ((o12_look σk1) ∧ (let r93 := (f12_look σk1); if r93.1 = (-1 : Int32) then ((o12_isWhole r93.2) ∧ (if (f12_isWhole r93.2) = true then True else (let s95 := (f12_bad r93.2); True))) else (let s94 := (f12_bad r93.2); True))) else True) (fu1 ((Int32.toInt (σ 123 2) - Int32.toInt (σ 123 3)).toNat + 1 + 1)) x1 true σ) else ((vp_in v2 3) ∧ (let s96 := sp σ 134 (Int32.toNatClampNeg v2) (f12_usual (115 : Int32) v2); (o12_readTown_c24 x1 fu (v2 + 1) s96)))
noncomputable def f12_readTown (σ : SI) : Int32 × SI := let s0 := sp σ 123 3 (0 : Int32); let s1 := sp s0 123 4 (-1 : Int32); let s2 := sp s1 123 20 (0 : Int32); let s3 := sp s2 123 21 (0 : Int32); (f12_readTown_c24 false (fu1 ((Int32.toInt (3 : Int32) - Int32.toInt (0 : Int32)).toNat)) (0 : Int32) s3)
noncomputable def o12_readTown (σ : SI) : Prop := let s0 := sp σ 123 3 (0 : Int32); let s1 := sp s0 123 4 (-1 : Int32); let s2 := sp s1 123 20 (0 : Int32); let s3 := sp s2 123 21 (0 : Int32); (o12_readTown_c24 false (fu1 ((Int32.toInt (3 : Int32) - Int32.toInt (0 : Int32)).toNat)) (0 : Int32) s3)
theorem w_f12_readTown_c49 {K : Bool → Bool → SI → (Int32 × SI)} (a : Nat) (h0 : a ≠ 123) (h1 : a ≠ 134) (h2 : a ≠ 135) (h3 : a ≠ 136) (hK : ∀ (v1 : Bool) (v2 : Bool) (σ : SI), (K v1 v2 σ).2 a = σ a) : ∀ (fu : Nat) (v1 : Bool) (v2 : Bool) (σ : SI), (f12_readTown_c49 K fu v1 v2 σ).2 a = σ a := by
  intro fu
  induction fu with
  | zero => intro v1 v2 σ; exact hK v1 v2 σ
  | succ fu ih =>
    intro v1 v2 σ
    refine fp_to2 ?_
    unfold f12_readTown_c49
    exact (fr_ite2 (fr_ite2 (fr_ite2 (fr_ite2 (fr_ite2 (fr_ite2 (fr_ite2 (fr_ite2 (fr_ite2 (fr_ite2 (fp_of2 (((ih _ _ _).trans ((sp_n h0).trans ((w_f12_look _ a h0).trans ((w_f12_bad _ a h0).trans (w_f12_look _ a h0))))))) (fp_of2 (((ih _ _ _).trans ((sp_n h0).trans ((w_f12_look _ a h0).trans ((w_f12_bad _ a h0).trans (w_f12_look _ a h0)))))))) (fp_of2 (((ih _ _ _).trans ((sp_n h0).trans ((w_f12_bad _ a h0).trans (w_f12_look _ a h0))))))) (fr_ite2 (fr_ite2 (fp_of2 (((ih _ _ _).trans ((sp_n h0).trans ((w_f12_look _ a h0).trans ((sp_n h0).trans ((w_f12_items _ _ _ _ a h0 h3).trans ((sp_n h0).trans (w_f12_look _ a h0))))))))) (fp_of2 (((ih _ _ _).trans ((sp_n h0).trans ((w_f12_look _ a h0).trans ((sp_n h0).trans ((w_f12_items _ _ _ _ a h0 h3).trans ((sp_n h0).trans (w_f12_look _ a h0)))))))))) (fp_of2 (((ih _ _ _).trans ((sp_n h0).trans ((sp_n h0).trans ((w_f12_items _ _ _ _ a h0 h3).trans ((sp_n h0).trans (w_f12_look _ a h0)))))))))) (fr_ite2 (fr_ite2 (fp_of2 (((ih _ _ _).trans ((sp_n h0).trans ((w_f12_look _ a h0).trans ((w_f12_bad _ a h0).trans (w_f12_look _ a h0))))))) (fp_of2 (((ih _ _ _).trans ((sp_n h0).trans ((w_f12_look _ a h0).trans ((w_f12_bad _ a h0).trans (w_f12_look _ a h0)))))))) (fp_of2 (((ih _ _ _).trans ((sp_n h0).trans ((w_f12_bad _ a h0).trans (w_f12_look _ a h0)))))))) (fr_ite2 (fr_ite2 (fp_of2 (((ih _ _ _).trans ((sp_n h0).trans ((w_f12_look _ a h0).trans ((sp_n h0).trans ((w_f12_items _ _ _ _ a h0 h2).trans ((sp_n h0).trans (w_f12_look _ a h0))))))))) (fp_of2 (((ih _ _ _).trans ((sp_n h0).trans ((w_f12_look _ a h0).trans ((sp_n h0).trans ((w_f12_items _ _ _ _ a h0 h2).trans ((sp_n h0).trans (w_f12_look _ a h0)))))))))) (fp_of2 (((ih _ _ _).trans ((sp_n h0).trans ((sp_n h0).trans ((w_f12_items _ _ _ _ a h0 h2).trans ((sp_n h0).trans (w_f12_look _ a h0)))))))))) (fr_ite2 (fr_ite2 (fr_ite2 (fr_ite2 (fp_of2 (((ih _ _ _).trans ((sp_n h0).trans ((w_f12_look _ a h0).trans ((w_f12_bad _ a h0).trans (w_f12_look _ a h0))))))) (fp_of2 (((ih _ _ _).trans ((sp_n h0).trans ((w_f12_look _ a h0).trans ((w_f12_bad _ a h0).trans (w_f12_look _ a h0)))))))) (fp_of2 (((ih _ _ _).trans ((sp_n h0).trans ((w_f12_bad _ a h0).trans (w_f12_look _ a h0))))))) (fr_ite2 (fr_ite2 (fp_of2 (((ih _ _ _).trans ((sp_n h0).trans ((w_f12_look _ a h0).trans ((sp_n h0).trans ((w_f12_items _ _ _ _ a h0 h3).trans ((sp_n h0).trans (w_f12_look _ a h0))))))))) (fp_of2 (((ih _ _ _).trans ((sp_n h0).trans ((w_f12_look _ a h0).trans ((sp_n h0).trans ((w_f12_items _ _ _ _ a h0 h3).trans ((sp_n h0).trans (w_f12_look _ a h0)))))))))) (fp_of2 (((ih _ _ _).trans ((sp_n h0).trans ((sp_n h0).trans ((w_f12_items _ _ _ _ a h0 h3).trans ((sp_n h0).trans (w_f12_look _ a h0)))))))))) (fr_ite2 (fr_ite2 (fp_of2 (((ih _ _ _).trans ((sp_n h0).trans ((w_f12_look _ a h0).trans ((w_f12_bad _ a h0).trans (w_f12_look _ a h0))))))) (fp_of2 (((ih _ _ _).trans ((sp_n h0).trans ((w_f12_look _ a h0).trans ((w_f12_bad _ a h0).trans (w_f12_look _ a h0)))))))) (fp_of2 (((ih _ _ _).trans ((sp_n h0).trans ((w_f12_bad _ a h0).trans (w_f12_look _ a h0))))))))) (fr_ite2 (fr_ite2 (fp_of2 (((ih _ _ _).trans ((sp_n h0).trans ((w_f12_look _ a h0).trans ((w_f12_items _ _ _ _ a h0 h1).trans ((sp_n h0).trans (w_f12_look _ a h0)))))))) (fp_of2 (((ih _ _ _).trans ((sp_n h0).trans ((w_f12_look _ a h0).trans ((w_f12_items _ _ _ _ a h0 h1).trans ((sp_n h0).trans (w_f12_look _ a h0))))))))) (fp_of2 (((ih _ _ _).trans ((sp_n h0).trans ((w_f12_items _ _ _ _ a h0 h1).trans ((sp_n h0).trans (w_f12_look _ a h0))))))))) (fr_ite2 (fr_ite2 (fr_ite2 (fr_ite2 (fr_ite2 (fr_ite2 (fp_of2 (((ih _ _ _).trans ((sp_n h0).trans ((w_f12_look _ a h0).trans ((w_f12_bad _ a h0).trans (w_f12_look _ a h0))))))) (fp_of2 (((ih _ _ _).trans ((sp_n h0).trans ((w_f12_look _ a h0).trans ((w_f12_bad _ a h0).trans (w_f12_look _ a h0)))))))) (fp_of2 (((ih _ _ _).trans ((sp_n h0).trans ((w_f12_bad _ a h0).trans (w_f12_look _ a h0))))))) (fr_ite2 (fr_ite2 (fp_of2 (((ih _ _ _).trans ((sp_n h0).trans ((w_f12_look _ a h0).trans ((sp_n h0).trans ((w_f12_items _ _ _ _ a h0 h3).trans ((sp_n h0).trans (w_f12_look _ a h0))))))))) (fp_of2 (((ih _ _ _).trans ((sp_n h0).trans ((w_f12_look _ a h0).trans ((sp_n h0).trans ((w_f12_items _ _ _ _ a h0 h3).trans ((sp_n h0).trans (w_f12_look _ a h0)))))))))) (fp_of2 (((ih _ _ _).trans ((sp_n h0).trans ((sp_n h0).trans ((w_f12_items _ _ _ _ a h0 h3).trans ((sp_n h0).trans (w_f12_look _ a h0)))))))))) (fr_ite2 (fr_ite2 (fp_of2 (((ih _ _ _).trans ((sp_n h0).trans ((w_f12_look _ a h0).trans ((w_f12_bad _ a h0).trans (w_f12_look _ a h0))))))) (fp_of2 (((ih _ _ _).trans ((sp_n h0).trans ((w_f12_look _ a h0).trans ((w_f12_bad _ a h0).trans (w_f12_look _ a h0)))))))) (fp_of2 (((ih _ _ _).trans ((sp_n h0).trans ((w_f12_bad _ a h0).trans (w_f12_look _ a h0)))))))) (fr_ite2 (fr_ite2 (fp_of2 (((ih _ _ _).trans ((sp_n h0).trans ((w_f12_look _ a h0).trans ((sp_n h0).trans ((w_f12_items _ _ _ _ a h0 h2).trans ((sp_n h0).trans (w_f12_look _ a h0))))))))) (fp_of2 (((ih _ _ _).trans ((sp_n h0).trans ((w_f12_look _ a h0).trans ((sp_n h0).trans ((w_f12_items _ _ _ _ a h0 h2).trans ((sp_n h0).trans (w_f12_look _ a h0)))))))))) (fp_of2 (((ih _ _ _).trans ((sp_n h0).trans ((sp_n h0).trans ((w_f12_items _ _ _ _ a h0 h2).trans ((sp_n h0).trans (w_f12_look _ a h0)))))))))) (fr_ite2 (fr_ite2 (fr_ite2 (fr_ite2 (fp_of2 (((ih _ _ _).trans ((sp_n h0).trans ((w_f12_look _ a h0).trans ((w_f12_bad _ a h0).trans (w_f12_look _ a h0))))))) (fp_of2 (((ih _ _ _).trans ((sp_n h0).trans ((w_f12_look _ a h0).trans ((w_f12_bad _ a h0).trans (w_f12_look _ a h0)))))))) (fp_of2 (((ih _ _ _).trans ((sp_n h0).trans ((w_f12_bad _ a h0).trans (w_f12_look _ a h0))))))) (fr_ite2 (fr_ite2 (fp_of2 (((ih _ _ _).trans ((sp_n h0).trans ((w_f12_look _ a h0).trans ((sp_n h0).trans ((w_f12_items _ _ _ _ a h0 h3).trans ((sp_n h0).trans (w_f12_look _ a h0))))))))) (fp_of2 (((ih _ _ _).trans ((sp_n h0).trans ((w_f12_look _ a h0).trans ((sp_n h0).trans ((w_f12_items _ _ _ _ a h0 h3).trans ((sp_n h0).trans (w_f12_look _ a h0)))))))))) (fp_of2 (((ih _ _ _).trans ((sp_n h0).trans ((sp_n h0).trans ((w_f12_items _ _ _ _ a h0 h3).trans ((sp_n h0).trans (w_f12_look _ a h0)))))))))) (fr_ite2 (fr_ite2 (fp_of2 (((ih _ _ _).trans ((sp_n h0).trans ((w_f12_look _ a h0).trans ((w_f12_bad _ a h0).trans (w_f12_look _ a h0))))))) (fp_of2 (((ih _ _ _).trans ((sp_n h0).trans ((w_f12_look _ a h0).trans ((w_f12_bad _ a h0).trans (w_f12_look _ a h0)))))))) (fp_of2 (((ih _ _ _).trans ((sp_n h0).trans ((w_f12_bad _ a h0).trans (w_f12_look _ a h0)))))))))) (fp_of2 ((hK _ _ _)))) (fp_of2 ((hK _ _ _))))
theorem w_f12_readTown_c24 (x1 : Bool) (a : Nat) (h0 : a ≠ 123) (h1 : a ≠ 134) (h2 : a ≠ 135) (h3 : a ≠ 136) : ∀ (fu : Nat) (v2 : Int32) (σ : SI), (f12_readTown_c24 x1 fu v2 σ).2 a = σ a := by
  intro fu
  induction fu with
  | zero => intro v2 σ; exact rfl
  | succ fu ih =>
    intro v2 σ
    refine fp_to2 ?_
    unfold f12_readTown_c24
    exact (fr_ite2 (fp_of2 ((w_f12_readTown_c49 a h0 h1 h2 h3 (fun y1_1 y1_2 σk1 => (fp_to2 ((fr_ite2 (fr_ite2 (fr_ite2 (fr_mk21 (w_f12_look _ a h0)) (fr_mk21 ((w_f12_bad _ a h0).trans (w_f12_look _ a h0)))) (fr_mk21 ((w_f12_bad _ a h0).trans (w_f12_look _ a h0)))) (fr_mk21 rfl))))) _ _ _ _))) (fp_of2 (((ih _ _).trans (sp_n h1)))))
theorem w_f12_readTown (σ : SI) (a : Nat) (h0 : a ≠ 123) (h1 : a ≠ 134) (h2 : a ≠ 135) (h3 : a ≠ 136) : (f12_readTown σ).2 a = σ a := by
  refine fp_to2 ?_
  unfold f12_readTown
  exact (fp_of2 (((w_f12_readTown_c24 _ a h0 h1 h2 h3 _ _ _).trans ((sp_n h0).trans ((sp_n h0).trans ((sp_n h0).trans (sp_n h0)))))))
set_option maxHeartbeats 4000000 in
set_option maxRecDepth 100000 in
theorem c12_readTown_c49 {l : Launch} {p : Program} {e : Env} {s : State} {m : MethodId} {args : Array Value} {below : List Frame} {meth : Method} {c : Code} {G : GT} (X : CX p s m args meth c cX12_readTown RX12 4 (some .int) G) {E : Int32 × SI} (τ : SL) {oK : Bool → Bool → SI → Prop} {K : Bool → Bool → SI → (Int32 × SI)} (hK : ∀ (v1 : Bool) (v2 : Bool) (σ : SI) (H : Heap) (locs : List Loc) (ls : Array Slot), IX G s H locs σ τ → lv_has ls 4 [(0, .ref (G.2.1 123)), (1, .int (b2i v1)), (2, .int (b2i v2))] → oK v1 v2 σ → E = K v1 v2 σ → W p l e (rmN 4) s m args below meth c H locs 0 0 (MQ below ((Qi G (Ei E.1 E.2 τ)) s.heap.size) args s 0 0 (AW G s.heap.size)) (F0 m 255 ls [])) : ∀ (fu : Nat) (v1 : Bool) (v2 : Bool) (σ : SI) (H : Heap) (locs : List Loc) (ls : Array Slot), IX G s H locs σ τ → lv_has ls 4 [(0, .ref (G.2.1 123)), (1, .int (b2i v1)), (2, .int (b2i v2))] → (o12_readTown_c49 oK fu v1 v2 σ) → E = (f12_readTown_c49 K fu v1 v2 σ) → W p l e (rmN 4) s m args below meth c H locs 0 0 (MQ below ((Qi G (Ei E.1 E.2 τ)) s.heap.size) args s 0 0 (AW G s.heap.size)) (F0 m 49 ls []) := by
  intro fu
  induction fu with
  | zero =>
    intro v1 v2 σ H locs ls I hl  ho hE
    unfold o12_readTown_c49 at ho
    exact ho.elim
  | succ fu ih =>
    intro v1 v2 σ H locs ls I hl  ho hE
    unfold o12_readTown_c49 at ho
    refine lv_iload_n X.1 X.2.1 dX12_readTown_49 rfl (lv_at hl 2 rfl) ?_
    refine lv_if_eq (tgt := 255) X.1 X.2.1 dX12_readTown_50 (by decide) (fun c_2 => ?_) (fun c_2 => ?_)
    · skip
      have hE := ite_f hE (b2i_n c_2)
      have ho := ite_fP ho (b2i_n c_2)
      exact hK _ _ _ _ _ _ I (lv_sub hl [0, 1, 2] rfl) ho (hE.trans (rfl))
    · skip
      have hE := ite_t hE (b2i_y c_2)
      have ho := ite_tP ho (b2i_y c_2)
      refine lv_aload_n X.1 X.2.1 dX12_readTown_53 rfl (lv_at hl 0 rfl) ?_
      refine g12_4 X I (k := 123) (by decide) rfl lf_X12_122 dX12_readTown_54 ?_
      refine lv_iconst (v := (-1)) X.1 X.2.1 dX12_readTown_57 (by decide) ?_
      refine lv_icmp_ne (tgt := 255) X.1 X.2.1 dX12_readTown_58 (by decide) (fun c_3 => ?_) (fun c_3 => ?_)
      · skip
        have hE := ite_f hE c_3
        have ho := ite_fP ho c_3
        exact hK _ _ _ _ _ _ I (lv_sub hl [0, 1, 2] rfl) ho (hE.trans (rfl))
      · skip
        have hE := ite_t hE c_3
        have ho := ite_tP ho c_3
        refine lv_aload_n X.1 X.2.1 dX12_readTown_61 rfl (lv_at hl 0 rfl) ?_
        have ho1 := ho.1
        have ho := ho.2
        refine r_ei I (r_runV X I pk_X12_look (c12_look l G _ _ ho1) lm_X12_134 (by decide) (cl_12 rfl) rfl rfl rfl hl.1 rfl (Nat.le_of_ble_eq_true rfl) dX12_readTown_62 ⟨Nat.le_of_ble_eq_true rfl, Nat.le_of_ble_eq_true rfl⟩ ⟨Nat.le_refl 0, Nat.le_refl 0⟩) (fun H locs I => ?_)
        refine lv_istore_n (lv' := [(3, .int _), (0, .ref _), (1, .int _), (2, .int _)]) X.1 X.2.1 dX12_readTown_65 rfl hl (by decide) rfl (fun ls hl => ?_)
        refine lv_iload_n X.1 X.2.1 dX12_readTown_66 rfl (lv_at hl 0 rfl) ?_
        refine lv_bipush (v := 115) X.1 X.2.1 dX12_readTown_67 (by decide) ?_
        refine lv_icmp_ne (tgt := 102) X.1 X.2.1 dX12_readTown_69 (by decide) (fun c_4 => ?_) (fun c_4 => ?_)
        · skip
          have hE := ite_f hE c_4
          have ho := ite_fP ho c_4
          refine lv_iload_n X.1 X.2.1 dX12_readTown_102 rfl (lv_at hl 0 rfl) ?_
          refine lv_bipush (v := 104) X.1 X.2.1 dX12_readTown_103 (by decide) ?_
          refine lv_icmp_ne (tgt := 156) X.1 X.2.1 dX12_readTown_105 (by decide) (fun c_5 => ?_) (fun c_5 => ?_)
          · skip
            have hE := ite_f hE c_5
            have ho := ite_fP ho c_5
            refine lv_iload_n X.1 X.2.1 dX12_readTown_156 rfl (lv_at hl 0 rfl) ?_
            refine lv_bipush (v := 98) X.1 X.2.1 dX12_readTown_157 (by decide) ?_
            refine lv_icmp_ne (tgt := 207) X.1 X.2.1 dX12_readTown_159 (by decide) (fun c_6 => ?_) (fun c_6 => ?_)
            · skip
              have hE := ite_f hE c_6
              have ho := ite_fP ho c_6
              refine lv_aload_n X.1 X.2.1 dX12_readTown_207 rfl (lv_at hl 1 rfl) ?_
              refine r_ev I (r_runV X I pk_X12_bad (c12_bad l G _ _) lm_X12_131 (by decide) (cl_12 rfl) rfl rfl rfl hl.1 rfl (Nat.le_of_ble_eq_true rfl) dX12_readTown_208 ⟨Nat.le_of_ble_eq_true rfl, Nat.le_of_ble_eq_true rfl⟩ ⟨Nat.le_refl 0, Nat.le_refl 0⟩) (fun H locs I => ?_)
              refine lv_aload_n X.1 X.2.1 dX12_readTown_211 rfl (lv_at hl 1 rfl) ?_
              refine g12_4 X I (k := 123) (by decide) rfl lf_X12_122 dX12_readTown_212 ?_
              refine lv_iconst (v := (-1)) X.1 X.2.1 dX12_readTown_215 (by decide) ?_
              refine lv_icmp_ne (tgt := 232) X.1 X.2.1 dX12_readTown_216 (by decide) (fun c_7 => ?_) (fun c_7 => ?_)
              · skip
                have hE := ite_f hE c_7
                have ho := ite_fP ho c_7
                refine lv_iconst (v := 0) X.1 X.2.1 dX12_readTown_232 (by decide) ?_
                refine lv_istore_n (lv' := [(2, .int _), (3, .int _), (0, .ref _), (1, .int _)]) X.1 X.2.1 dX12_readTown_233 rfl hl (by decide) rfl (fun ls hl => ?_)
                refine lv_aload_n X.1 X.2.1 dX12_readTown_234 rfl (lv_at hl 2 rfl) ?_
                refine lv_dup X.1 X.2.1 dX12_readTown_235 rfl ?_
                refine g12_3 X I (k := 123) (by decide) rfl lf_X12_115 dX12_readTown_236 ?_
                refine lv_iload_n X.1 X.2.1 dX12_readTown_239 rfl (lv_at hl 0 rfl) ?_
                refine lv_if_eq (tgt := 247) X.1 X.2.1 dX12_readTown_240 (by decide) (fun c_8 => ?_) (fun c_8 => ?_)
                · skip
                  refine lv_iconst (v := 0) X.1 X.2.1 dX12_readTown_247 (by decide) ?_
                  refine lv_iadd X.1 X.2.1 dX12_readTown_248 ?_
                  refine p12_3 X I (k := 123) (by decide) rfl lf_X12_115 dX12_readTown_249 (fun H locs I => ?_)
                  refine lv_goto (tgt := 49) X.1 X.2.1 dX12_readTown_252 (by decide) ?_
                  exact ih _ false _ _ _ _ I (lv_sub hl [2, 3, 0] rfl) ho (hE.trans (rfl))
                · exact absurd c_8 (by decide)
              · skip
                have hE := ite_t hE c_7
                have ho := ite_tP ho c_7
                refine lv_aload_n X.1 X.2.1 dX12_readTown_219 rfl (lv_at hl 1 rfl) ?_
                have ho2 := ho.1
                have ho := ho.2
                refine r_ei I (r_runV X I pk_X12_look (c12_look l G _ _ ho2) lm_X12_134 (by decide) (cl_12 rfl) rfl rfl rfl hl.1 rfl (Nat.le_of_ble_eq_true rfl) dX12_readTown_220 ⟨Nat.le_of_ble_eq_true rfl, Nat.le_of_ble_eq_true rfl⟩ ⟨Nat.le_refl 0, Nat.le_refl 0⟩) (fun H locs I => ?_)
                refine lv_bipush (v := 59) X.1 X.2.1 dX12_readTown_223 (by decide) ?_
                refine lv_icmp_ne (tgt := 232) X.1 X.2.1 dX12_readTown_225 (by decide) (fun c_9 => ?_) (fun c_9 => ?_)
                · skip
                  have hE := ite_f hE c_9
                  have ho := ite_fP ho c_9
                  refine lv_iconst (v := 0) X.1 X.2.1 dX12_readTown_232 (by decide) ?_
                  refine lv_istore_n (lv' := [(2, .int _), (3, .int _), (0, .ref _), (1, .int _)]) X.1 X.2.1 dX12_readTown_233 rfl hl (by decide) rfl (fun ls hl => ?_)
                  refine lv_aload_n X.1 X.2.1 dX12_readTown_234 rfl (lv_at hl 2 rfl) ?_
                  refine lv_dup X.1 X.2.1 dX12_readTown_235 rfl ?_
                  refine g12_3 X I (k := 123) (by decide) rfl lf_X12_115 dX12_readTown_236 ?_
                  refine lv_iload_n X.1 X.2.1 dX12_readTown_239 rfl (lv_at hl 0 rfl) ?_
                  refine lv_if_eq (tgt := 247) X.1 X.2.1 dX12_readTown_240 (by decide) (fun c_10 => ?_) (fun c_10 => ?_)
                  · skip
                    refine lv_iconst (v := 0) X.1 X.2.1 dX12_readTown_247 (by decide) ?_
                    refine lv_iadd X.1 X.2.1 dX12_readTown_248 ?_
                    refine p12_3 X I (k := 123) (by decide) rfl lf_X12_115 dX12_readTown_249 (fun H locs I => ?_)
                    refine lv_goto (tgt := 49) X.1 X.2.1 dX12_readTown_252 (by decide) ?_
                    exact ih _ false _ _ _ _ I (lv_sub hl [2, 3, 0] rfl) ho (hE.trans (rfl))
                  · exact absurd c_10 (by decide)
                · skip
                  have hE := ite_t hE c_9
                  have ho := ite_tP ho c_9
                  refine lv_iconst (v := 1) X.1 X.2.1 dX12_readTown_228 (by decide) ?_
                  refine lv_goto (tgt := 233) X.1 X.2.1 dX12_readTown_229 (by decide) ?_
                  refine lv_istore_n (lv' := [(2, .int _), (3, .int _), (0, .ref _), (1, .int _)]) X.1 X.2.1 dX12_readTown_233 rfl hl (by decide) rfl (fun ls hl => ?_)
                  refine lv_aload_n X.1 X.2.1 dX12_readTown_234 rfl (lv_at hl 2 rfl) ?_
                  refine lv_dup X.1 X.2.1 dX12_readTown_235 rfl ?_
                  refine g12_3 X I (k := 123) (by decide) rfl lf_X12_115 dX12_readTown_236 ?_
                  refine lv_iload_n X.1 X.2.1 dX12_readTown_239 rfl (lv_at hl 0 rfl) ?_
                  refine lv_if_eq (tgt := 247) X.1 X.2.1 dX12_readTown_240 (by decide) (fun c_11 => ?_) (fun c_11 => ?_)
                  · exact absurd c_11 (by decide)
                  · skip
                    refine lv_iconst (v := 1) X.1 X.2.1 dX12_readTown_243 (by decide) ?_
                    refine lv_goto (tgt := 248) X.1 X.2.1 dX12_readTown_244 (by decide) ?_
                    refine lv_iadd X.1 X.2.1 dX12_readTown_248 ?_
                    refine p12_3 X I (k := 123) (by decide) rfl lf_X12_115 dX12_readTown_249 (fun H locs I => ?_)
                    refine lv_goto (tgt := 49) X.1 X.2.1 dX12_readTown_252 (by decide) ?_
                    exact ih _ true _ _ _ _ I (lv_sub hl [2, 3, 0] rfl) ho (hE.trans (rfl))
            · skip
              have hE := ite_t hE c_6
              have ho := ite_tP ho c_6
              refine lv_aload_n X.1 X.2.1 dX12_readTown_162 rfl (lv_at hl 1 rfl) ?_
              refine g12_21 X I (k := 123) (by decide) rfl lf_X12_247 dX12_readTown_163 ?_
              refine lv_iconst (v := 5) X.1 X.2.1 dX12_readTown_166 (by decide) ?_
              refine lv_icmp_ge (tgt := 207) X.1 X.2.1 dX12_readTown_167 (by decide) (fun c_12 => ?_) (fun c_12 => ?_)
              · skip
                have hE := ite_t hE c_12
                have ho := ite_tP ho c_12
                refine lv_aload_n X.1 X.2.1 dX12_readTown_207 rfl (lv_at hl 1 rfl) ?_
                refine r_ev I (r_runV X I pk_X12_bad (c12_bad l G _ _) lm_X12_131 (by decide) (cl_12 rfl) rfl rfl rfl hl.1 rfl (Nat.le_of_ble_eq_true rfl) dX12_readTown_208 ⟨Nat.le_of_ble_eq_true rfl, Nat.le_of_ble_eq_true rfl⟩ ⟨Nat.le_refl 0, Nat.le_refl 0⟩) (fun H locs I => ?_)
                refine lv_aload_n X.1 X.2.1 dX12_readTown_211 rfl (lv_at hl 1 rfl) ?_
                refine g12_4 X I (k := 123) (by decide) rfl lf_X12_122 dX12_readTown_212 ?_
                refine lv_iconst (v := (-1)) X.1 X.2.1 dX12_readTown_215 (by decide) ?_
                refine lv_icmp_ne (tgt := 232) X.1 X.2.1 dX12_readTown_216 (by decide) (fun c_13 => ?_) (fun c_13 => ?_)
                · skip
                  have hE := ite_f hE c_13
                  have ho := ite_fP ho c_13
                  refine lv_iconst (v := 0) X.1 X.2.1 dX12_readTown_232 (by decide) ?_
                  refine lv_istore_n (lv' := [(2, .int _), (3, .int _), (0, .ref _), (1, .int _)]) X.1 X.2.1 dX12_readTown_233 rfl hl (by decide) rfl (fun ls hl => ?_)
                  refine lv_aload_n X.1 X.2.1 dX12_readTown_234 rfl (lv_at hl 2 rfl) ?_
                  refine lv_dup X.1 X.2.1 dX12_readTown_235 rfl ?_
                  refine g12_3 X I (k := 123) (by decide) rfl lf_X12_115 dX12_readTown_236 ?_
                  refine lv_iload_n X.1 X.2.1 dX12_readTown_239 rfl (lv_at hl 0 rfl) ?_
                  refine lv_if_eq (tgt := 247) X.1 X.2.1 dX12_readTown_240 (by decide) (fun c_14 => ?_) (fun c_14 => ?_)
                  · skip
                    refine lv_iconst (v := 0) X.1 X.2.1 dX12_readTown_247 (by decide) ?_
                    refine lv_iadd X.1 X.2.1 dX12_readTown_248 ?_
                    refine p12_3 X I (k := 123) (by decide) rfl lf_X12_115 dX12_readTown_249 (fun H locs I => ?_)
                    refine lv_goto (tgt := 49) X.1 X.2.1 dX12_readTown_252 (by decide) ?_
                    exact ih _ false _ _ _ _ I (lv_sub hl [2, 3, 0] rfl) ho (hE.trans (rfl))
                  · exact absurd c_14 (by decide)
                · skip
                  have hE := ite_t hE c_13
                  have ho := ite_tP ho c_13
                  refine lv_aload_n X.1 X.2.1 dX12_readTown_219 rfl (lv_at hl 1 rfl) ?_
                  have ho3 := ho.1
                  have ho := ho.2
                  refine r_ei I (r_runV X I pk_X12_look (c12_look l G _ _ ho3) lm_X12_134 (by decide) (cl_12 rfl) rfl rfl rfl hl.1 rfl (Nat.le_of_ble_eq_true rfl) dX12_readTown_220 ⟨Nat.le_of_ble_eq_true rfl, Nat.le_of_ble_eq_true rfl⟩ ⟨Nat.le_refl 0, Nat.le_refl 0⟩) (fun H locs I => ?_)
                  refine lv_bipush (v := 59) X.1 X.2.1 dX12_readTown_223 (by decide) ?_
                  refine lv_icmp_ne (tgt := 232) X.1 X.2.1 dX12_readTown_225 (by decide) (fun c_15 => ?_) (fun c_15 => ?_)
                  · skip
                    have hE := ite_f hE c_15
                    have ho := ite_fP ho c_15
                    refine lv_iconst (v := 0) X.1 X.2.1 dX12_readTown_232 (by decide) ?_
                    refine lv_istore_n (lv' := [(2, .int _), (3, .int _), (0, .ref _), (1, .int _)]) X.1 X.2.1 dX12_readTown_233 rfl hl (by decide) rfl (fun ls hl => ?_)
                    refine lv_aload_n X.1 X.2.1 dX12_readTown_234 rfl (lv_at hl 2 rfl) ?_
                    refine lv_dup X.1 X.2.1 dX12_readTown_235 rfl ?_
                    refine g12_3 X I (k := 123) (by decide) rfl lf_X12_115 dX12_readTown_236 ?_
                    refine lv_iload_n X.1 X.2.1 dX12_readTown_239 rfl (lv_at hl 0 rfl) ?_
                    refine lv_if_eq (tgt := 247) X.1 X.2.1 dX12_readTown_240 (by decide) (fun c_16 => ?_) (fun c_16 => ?_)
                    · skip
                      refine lv_iconst (v := 0) X.1 X.2.1 dX12_readTown_247 (by decide) ?_
                      refine lv_iadd X.1 X.2.1 dX12_readTown_248 ?_
                      refine p12_3 X I (k := 123) (by decide) rfl lf_X12_115 dX12_readTown_249 (fun H locs I => ?_)
                      refine lv_goto (tgt := 49) X.1 X.2.1 dX12_readTown_252 (by decide) ?_
                      exact ih _ false _ _ _ _ I (lv_sub hl [2, 3, 0] rfl) ho (hE.trans (rfl))
                    · exact absurd c_16 (by decide)
                  · skip
                    have hE := ite_t hE c_15
                    have ho := ite_tP ho c_15
                    refine lv_iconst (v := 1) X.1 X.2.1 dX12_readTown_228 (by decide) ?_
                    refine lv_goto (tgt := 233) X.1 X.2.1 dX12_readTown_229 (by decide) ?_
                    refine lv_istore_n (lv' := [(2, .int _), (3, .int _), (0, .ref _), (1, .int _)]) X.1 X.2.1 dX12_readTown_233 rfl hl (by decide) rfl (fun ls hl => ?_)
                    refine lv_aload_n X.1 X.2.1 dX12_readTown_234 rfl (lv_at hl 2 rfl) ?_
                    refine lv_dup X.1 X.2.1 dX12_readTown_235 rfl ?_
                    refine g12_3 X I (k := 123) (by decide) rfl lf_X12_115 dX12_readTown_236 ?_
                    refine lv_iload_n X.1 X.2.1 dX12_readTown_239 rfl (lv_at hl 0 rfl) ?_
                    refine lv_if_eq (tgt := 247) X.1 X.2.1 dX12_readTown_240 (by decide) (fun c_17 => ?_) (fun c_17 => ?_)
                    · exact absurd c_17 (by decide)
                    · skip
                      refine lv_iconst (v := 1) X.1 X.2.1 dX12_readTown_243 (by decide) ?_
                      refine lv_goto (tgt := 248) X.1 X.2.1 dX12_readTown_244 (by decide) ?_
                      refine lv_iadd X.1 X.2.1 dX12_readTown_248 ?_
                      refine p12_3 X I (k := 123) (by decide) rfl lf_X12_115 dX12_readTown_249 (fun H locs I => ?_)
                      refine lv_goto (tgt := 49) X.1 X.2.1 dX12_readTown_252 (by decide) ?_
                      exact ih _ true _ _ _ _ I (lv_sub hl [2, 3, 0] rfl) ho (hE.trans (rfl))
              · skip
                have hE := ite_f hE c_12
                have ho := ite_fP ho c_12
                refine lv_aload_n X.1 X.2.1 dX12_readTown_170 rfl (lv_at hl 1 rfl) ?_
                refine lv_dup X.1 X.2.1 dX12_readTown_171 rfl ?_
                refine g12_3 X I (k := 123) (by decide) rfl lf_X12_115 dX12_readTown_172 ?_
                refine lv_iconst (v := 1) X.1 X.2.1 dX12_readTown_175 (by decide) ?_
                refine lv_iadd X.1 X.2.1 dX12_readTown_176 ?_
                refine p12_3 X I (k := 123) (by decide) rfl lf_X12_115 dX12_readTown_177 (fun H locs I => ?_)
                refine lv_aload_n X.1 X.2.1 dX12_readTown_180 rfl (lv_at hl 1 rfl) ?_
                refine lv_iload_n X.1 X.2.1 dX12_readTown_181 rfl (lv_at hl 0 rfl) ?_
                refine lv_aload_n X.1 X.2.1 dX12_readTown_182 rfl (lv_at hl 1 rfl) ?_
                refine g12_19 X I (k := 123) (by decide) rfl lf_X12_46 dX12_readTown_183 ?_
                refine lv_aload_n X.1 X.2.1 dX12_readTown_186 rfl (lv_at hl 1 rfl) ?_
                refine g12_21 X I (k := 123) (by decide) rfl lf_X12_247 dX12_readTown_187 ?_
                refine lv_iconst (v := 1) X.1 X.2.1 dX12_readTown_190 (by decide) ?_
                have ho4 := ho.1
                have ho := ho.2
                refine r_ev I (r_runV X I pk_X12_items (c12_items l G (k := 136) (n := 5) (by decide) rfl (by decide) _ _ _ _ _ ho4) lm_X12_250 (by decide) (cl_12 rfl) rfl rfl rfl hl.1 rfl (Nat.le_of_ble_eq_true rfl) dX12_readTown_191 ⟨Nat.le_of_ble_eq_true rfl, Nat.le_of_ble_eq_true rfl⟩ ⟨Nat.le_refl 0, Nat.le_refl 0⟩) (fun H locs I => ?_)
                refine lv_aload_n X.1 X.2.1 dX12_readTown_194 rfl (lv_at hl 1 rfl) ?_
                refine lv_dup X.1 X.2.1 dX12_readTown_195 rfl ?_
                refine g12_21 X I (k := 123) (by decide) rfl lf_X12_247 dX12_readTown_196 ?_
                refine lv_iconst (v := 1) X.1 X.2.1 dX12_readTown_199 (by decide) ?_
                refine lv_iadd X.1 X.2.1 dX12_readTown_200 ?_
                refine p12_21 X I (k := 123) (by decide) rfl lf_X12_247 dX12_readTown_201 (fun H locs I => ?_)
                refine lv_goto (tgt := 211) X.1 X.2.1 dX12_readTown_204 (by decide) ?_
                refine lv_aload_n X.1 X.2.1 dX12_readTown_211 rfl (lv_at hl 1 rfl) ?_
                refine g12_4 X I (k := 123) (by decide) rfl lf_X12_122 dX12_readTown_212 ?_
                refine lv_iconst (v := (-1)) X.1 X.2.1 dX12_readTown_215 (by decide) ?_
                refine lv_icmp_ne (tgt := 232) X.1 X.2.1 dX12_readTown_216 (by decide) (fun c_18 => ?_) (fun c_18 => ?_)
                · skip
                  have hE := ite_f hE c_18
                  have ho := ite_fP ho c_18
                  refine lv_iconst (v := 0) X.1 X.2.1 dX12_readTown_232 (by decide) ?_
                  refine lv_istore_n (lv' := [(2, .int _), (3, .int _), (0, .ref _), (1, .int _)]) X.1 X.2.1 dX12_readTown_233 rfl hl (by decide) rfl (fun ls hl => ?_)
                  refine lv_aload_n X.1 X.2.1 dX12_readTown_234 rfl (lv_at hl 2 rfl) ?_
                  refine lv_dup X.1 X.2.1 dX12_readTown_235 rfl ?_
                  refine g12_3 X I (k := 123) (by decide) rfl lf_X12_115 dX12_readTown_236 ?_
                  refine lv_iload_n X.1 X.2.1 dX12_readTown_239 rfl (lv_at hl 0 rfl) ?_
                  refine lv_if_eq (tgt := 247) X.1 X.2.1 dX12_readTown_240 (by decide) (fun c_19 => ?_) (fun c_19 => ?_)
                  · skip
                    refine lv_iconst (v := 0) X.1 X.2.1 dX12_readTown_247 (by decide) ?_
                    refine lv_iadd X.1 X.2.1 dX12_readTown_248 ?_
                    refine p12_3 X I (k := 123) (by decide) rfl lf_X12_115 dX12_readTown_249 (fun H locs I => ?_)
                    refine lv_goto (tgt := 49) X.1 X.2.1 dX12_readTown_252 (by decide) ?_
                    exact ih _ false _ _ _ _ I (lv_sub hl [2, 3, 0] rfl) ho (hE.trans (rfl))
                  · exact absurd c_19 (by decide)
                · skip
                  have hE := ite_t hE c_18
                  have ho := ite_tP ho c_18
                  refine lv_aload_n X.1 X.2.1 dX12_readTown_219 rfl (lv_at hl 1 rfl) ?_
                  have ho5 := ho.1
                  have ho := ho.2
                  refine r_ei I (r_runV X I pk_X12_look (c12_look l G _ _ ho5) lm_X12_134 (by decide) (cl_12 rfl) rfl rfl rfl hl.1 rfl (Nat.le_of_ble_eq_true rfl) dX12_readTown_220 ⟨Nat.le_of_ble_eq_true rfl, Nat.le_of_ble_eq_true rfl⟩ ⟨Nat.le_refl 0, Nat.le_refl 0⟩) (fun H locs I => ?_)
                  refine lv_bipush (v := 59) X.1 X.2.1 dX12_readTown_223 (by decide) ?_
                  refine lv_icmp_ne (tgt := 232) X.1 X.2.1 dX12_readTown_225 (by decide) (fun c_20 => ?_) (fun c_20 => ?_)
                  · skip
                    have hE := ite_f hE c_20
                    have ho := ite_fP ho c_20
                    refine lv_iconst (v := 0) X.1 X.2.1 dX12_readTown_232 (by decide) ?_
                    refine lv_istore_n (lv' := [(2, .int _), (3, .int _), (0, .ref _), (1, .int _)]) X.1 X.2.1 dX12_readTown_233 rfl hl (by decide) rfl (fun ls hl => ?_)
                    refine lv_aload_n X.1 X.2.1 dX12_readTown_234 rfl (lv_at hl 2 rfl) ?_
                    refine lv_dup X.1 X.2.1 dX12_readTown_235 rfl ?_
                    refine g12_3 X I (k := 123) (by decide) rfl lf_X12_115 dX12_readTown_236 ?_
                    refine lv_iload_n X.1 X.2.1 dX12_readTown_239 rfl (lv_at hl 0 rfl) ?_
                    refine lv_if_eq (tgt := 247) X.1 X.2.1 dX12_readTown_240 (by decide) (fun c_21 => ?_) (fun c_21 => ?_)
                    · skip
                      refine lv_iconst (v := 0) X.1 X.2.1 dX12_readTown_247 (by decide) ?_
                      refine lv_iadd X.1 X.2.1 dX12_readTown_248 ?_
                      refine p12_3 X I (k := 123) (by decide) rfl lf_X12_115 dX12_readTown_249 (fun H locs I => ?_)
                      refine lv_goto (tgt := 49) X.1 X.2.1 dX12_readTown_252 (by decide) ?_
                      exact ih _ false _ _ _ _ I (lv_sub hl [2, 3, 0] rfl) ho (hE.trans (rfl))
                    · exact absurd c_21 (by decide)
                  · skip
                    have hE := ite_t hE c_20
                    have ho := ite_tP ho c_20
                    refine lv_iconst (v := 1) X.1 X.2.1 dX12_readTown_228 (by decide) ?_
                    refine lv_goto (tgt := 233) X.1 X.2.1 dX12_readTown_229 (by decide) ?_
                    refine lv_istore_n (lv' := [(2, .int _), (3, .int _), (0, .ref _), (1, .int _)]) X.1 X.2.1 dX12_readTown_233 rfl hl (by decide) rfl (fun ls hl => ?_)
                    refine lv_aload_n X.1 X.2.1 dX12_readTown_234 rfl (lv_at hl 2 rfl) ?_
                    refine lv_dup X.1 X.2.1 dX12_readTown_235 rfl ?_
                    refine g12_3 X I (k := 123) (by decide) rfl lf_X12_115 dX12_readTown_236 ?_
                    refine lv_iload_n X.1 X.2.1 dX12_readTown_239 rfl (lv_at hl 0 rfl) ?_
                    refine lv_if_eq (tgt := 247) X.1 X.2.1 dX12_readTown_240 (by decide) (fun c_22 => ?_) (fun c_22 => ?_)
                    · exact absurd c_22 (by decide)
                    · skip
                      refine lv_iconst (v := 1) X.1 X.2.1 dX12_readTown_243 (by decide) ?_
                      refine lv_goto (tgt := 248) X.1 X.2.1 dX12_readTown_244 (by decide) ?_
                      refine lv_iadd X.1 X.2.1 dX12_readTown_248 ?_
                      refine p12_3 X I (k := 123) (by decide) rfl lf_X12_115 dX12_readTown_249 (fun H locs I => ?_)
                      refine lv_goto (tgt := 49) X.1 X.2.1 dX12_readTown_252 (by decide) ?_
                      exact ih _ true _ _ _ _ I (lv_sub hl [2, 3, 0] rfl) ho (hE.trans (rfl))
          · skip
            have hE := ite_t hE c_5
            have ho := ite_tP ho c_5
            refine lv_aload_n X.1 X.2.1 dX12_readTown_108 rfl (lv_at hl 1 rfl) ?_
            refine g12_20 X I (k := 123) (by decide) rfl lf_X12_244 dX12_readTown_109 ?_
            refine lv_bipush (v := 7) X.1 X.2.1 dX12_readTown_112 (by decide) ?_
            refine lv_icmp_ge (tgt := 156) X.1 X.2.1 dX12_readTown_114 (by decide) (fun c_23 => ?_) (fun c_23 => ?_)
            · skip
              have hE := ite_t hE c_23
              have ho := ite_tP ho c_23
              refine lv_iload_n X.1 X.2.1 dX12_readTown_156 rfl (lv_at hl 0 rfl) ?_
              refine lv_bipush (v := 98) X.1 X.2.1 dX12_readTown_157 (by decide) ?_
              refine lv_icmp_ne (tgt := 207) X.1 X.2.1 dX12_readTown_159 (by decide) (fun c_24 => ?_) (fun c_24 => ?_)
              · skip
                have hE := ite_f hE c_24
                have ho := ite_fP ho c_24
                refine lv_aload_n X.1 X.2.1 dX12_readTown_207 rfl (lv_at hl 1 rfl) ?_
                refine r_ev I (r_runV X I pk_X12_bad (c12_bad l G _ _) lm_X12_131 (by decide) (cl_12 rfl) rfl rfl rfl hl.1 rfl (Nat.le_of_ble_eq_true rfl) dX12_readTown_208 ⟨Nat.le_of_ble_eq_true rfl, Nat.le_of_ble_eq_true rfl⟩ ⟨Nat.le_refl 0, Nat.le_refl 0⟩) (fun H locs I => ?_)
                refine lv_aload_n X.1 X.2.1 dX12_readTown_211 rfl (lv_at hl 1 rfl) ?_
                refine g12_4 X I (k := 123) (by decide) rfl lf_X12_122 dX12_readTown_212 ?_
                refine lv_iconst (v := (-1)) X.1 X.2.1 dX12_readTown_215 (by decide) ?_
                refine lv_icmp_ne (tgt := 232) X.1 X.2.1 dX12_readTown_216 (by decide) (fun c_25 => ?_) (fun c_25 => ?_)
                · skip
                  have hE := ite_f hE c_25
                  have ho := ite_fP ho c_25
                  refine lv_iconst (v := 0) X.1 X.2.1 dX12_readTown_232 (by decide) ?_
                  refine lv_istore_n (lv' := [(2, .int _), (3, .int _), (0, .ref _), (1, .int _)]) X.1 X.2.1 dX12_readTown_233 rfl hl (by decide) rfl (fun ls hl => ?_)
                  refine lv_aload_n X.1 X.2.1 dX12_readTown_234 rfl (lv_at hl 2 rfl) ?_
                  refine lv_dup X.1 X.2.1 dX12_readTown_235 rfl ?_
                  refine g12_3 X I (k := 123) (by decide) rfl lf_X12_115 dX12_readTown_236 ?_
                  refine lv_iload_n X.1 X.2.1 dX12_readTown_239 rfl (lv_at hl 0 rfl) ?_
                  refine lv_if_eq (tgt := 247) X.1 X.2.1 dX12_readTown_240 (by decide) (fun c_26 => ?_) (fun c_26 => ?_)
                  · skip
                    refine lv_iconst (v := 0) X.1 X.2.1 dX12_readTown_247 (by decide) ?_
                    refine lv_iadd X.1 X.2.1 dX12_readTown_248 ?_
                    refine p12_3 X I (k := 123) (by decide) rfl lf_X12_115 dX12_readTown_249 (fun H locs I => ?_)
                    refine lv_goto (tgt := 49) X.1 X.2.1 dX12_readTown_252 (by decide) ?_
                    exact ih _ false _ _ _ _ I (lv_sub hl [2, 3, 0] rfl) ho (hE.trans (rfl))
                  · exact absurd c_26 (by decide)
                · skip
                  have hE := ite_t hE c_25
                  have ho := ite_tP ho c_25
                  refine lv_aload_n X.1 X.2.1 dX12_readTown_219 rfl (lv_at hl 1 rfl) ?_
                  have ho6 := ho.1
                  have ho := ho.2
                  refine r_ei I (r_runV X I pk_X12_look (c12_look l G _ _ ho6) lm_X12_134 (by decide) (cl_12 rfl) rfl rfl rfl hl.1 rfl (Nat.le_of_ble_eq_true rfl) dX12_readTown_220 ⟨Nat.le_of_ble_eq_true rfl, Nat.le_of_ble_eq_true rfl⟩ ⟨Nat.le_refl 0, Nat.le_refl 0⟩) (fun H locs I => ?_)
                  refine lv_bipush (v := 59) X.1 X.2.1 dX12_readTown_223 (by decide) ?_
                  refine lv_icmp_ne (tgt := 232) X.1 X.2.1 dX12_readTown_225 (by decide) (fun c_27 => ?_) (fun c_27 => ?_)
                  · skip
                    have hE := ite_f hE c_27
                    have ho := ite_fP ho c_27
                    refine lv_iconst (v := 0) X.1 X.2.1 dX12_readTown_232 (by decide) ?_
                    refine lv_istore_n (lv' := [(2, .int _), (3, .int _), (0, .ref _), (1, .int _)]) X.1 X.2.1 dX12_readTown_233 rfl hl (by decide) rfl (fun ls hl => ?_)
                    refine lv_aload_n X.1 X.2.1 dX12_readTown_234 rfl (lv_at hl 2 rfl) ?_
                    refine lv_dup X.1 X.2.1 dX12_readTown_235 rfl ?_
                    refine g12_3 X I (k := 123) (by decide) rfl lf_X12_115 dX12_readTown_236 ?_
                    refine lv_iload_n X.1 X.2.1 dX12_readTown_239 rfl (lv_at hl 0 rfl) ?_
                    refine lv_if_eq (tgt := 247) X.1 X.2.1 dX12_readTown_240 (by decide) (fun c_28 => ?_) (fun c_28 => ?_)
                    · skip
                      refine lv_iconst (v := 0) X.1 X.2.1 dX12_readTown_247 (by decide) ?_
                      refine lv_iadd X.1 X.2.1 dX12_readTown_248 ?_
                      refine p12_3 X I (k := 123) (by decide) rfl lf_X12_115 dX12_readTown_249 (fun H locs I => ?_)
                      refine lv_goto (tgt := 49) X.1 X.2.1 dX12_readTown_252 (by decide) ?_
                      exact ih _ false _ _ _ _ I (lv_sub hl [2, 3, 0] rfl) ho (hE.trans (rfl))
                    · exact absurd c_28 (by decide)
                  · skip
                    have hE := ite_t hE c_27
                    have ho := ite_tP ho c_27
                    refine lv_iconst (v := 1) X.1 X.2.1 dX12_readTown_228 (by decide) ?_
                    refine lv_goto (tgt := 233) X.1 X.2.1 dX12_readTown_229 (by decide) ?_
                    refine lv_istore_n (lv' := [(2, .int _), (3, .int _), (0, .ref _), (1, .int _)]) X.1 X.2.1 dX12_readTown_233 rfl hl (by decide) rfl (fun ls hl => ?_)
                    refine lv_aload_n X.1 X.2.1 dX12_readTown_234 rfl (lv_at hl 2 rfl) ?_
                    refine lv_dup X.1 X.2.1 dX12_readTown_235 rfl ?_
                    refine g12_3 X I (k := 123) (by decide) rfl lf_X12_115 dX12_readTown_236 ?_
                    refine lv_iload_n X.1 X.2.1 dX12_readTown_239 rfl (lv_at hl 0 rfl) ?_
                    refine lv_if_eq (tgt := 247) X.1 X.2.1 dX12_readTown_240 (by decide) (fun c_29 => ?_) (fun c_29 => ?_)
                    · exact absurd c_29 (by decide)
                    · skip
                      refine lv_iconst (v := 1) X.1 X.2.1 dX12_readTown_243 (by decide) ?_
                      refine lv_goto (tgt := 248) X.1 X.2.1 dX12_readTown_244 (by decide) ?_
                      refine lv_iadd X.1 X.2.1 dX12_readTown_248 ?_
                      refine p12_3 X I (k := 123) (by decide) rfl lf_X12_115 dX12_readTown_249 (fun H locs I => ?_)
                      refine lv_goto (tgt := 49) X.1 X.2.1 dX12_readTown_252 (by decide) ?_
                      exact ih _ true _ _ _ _ I (lv_sub hl [2, 3, 0] rfl) ho (hE.trans (rfl))
              · skip
                have hE := ite_t hE c_24
                have ho := ite_tP ho c_24
                refine lv_aload_n X.1 X.2.1 dX12_readTown_162 rfl (lv_at hl 1 rfl) ?_
                refine g12_21 X I (k := 123) (by decide) rfl lf_X12_247 dX12_readTown_163 ?_
                refine lv_iconst (v := 5) X.1 X.2.1 dX12_readTown_166 (by decide) ?_
                refine lv_icmp_ge (tgt := 207) X.1 X.2.1 dX12_readTown_167 (by decide) (fun c_30 => ?_) (fun c_30 => ?_)
                · skip
                  have hE := ite_t hE c_30
                  have ho := ite_tP ho c_30
                  refine lv_aload_n X.1 X.2.1 dX12_readTown_207 rfl (lv_at hl 1 rfl) ?_
                  refine r_ev I (r_runV X I pk_X12_bad (c12_bad l G _ _) lm_X12_131 (by decide) (cl_12 rfl) rfl rfl rfl hl.1 rfl (Nat.le_of_ble_eq_true rfl) dX12_readTown_208 ⟨Nat.le_of_ble_eq_true rfl, Nat.le_of_ble_eq_true rfl⟩ ⟨Nat.le_refl 0, Nat.le_refl 0⟩) (fun H locs I => ?_)
                  refine lv_aload_n X.1 X.2.1 dX12_readTown_211 rfl (lv_at hl 1 rfl) ?_
                  refine g12_4 X I (k := 123) (by decide) rfl lf_X12_122 dX12_readTown_212 ?_
                  refine lv_iconst (v := (-1)) X.1 X.2.1 dX12_readTown_215 (by decide) ?_
                  refine lv_icmp_ne (tgt := 232) X.1 X.2.1 dX12_readTown_216 (by decide) (fun c_31 => ?_) (fun c_31 => ?_)
                  · skip
                    have hE := ite_f hE c_31
                    have ho := ite_fP ho c_31
                    refine lv_iconst (v := 0) X.1 X.2.1 dX12_readTown_232 (by decide) ?_
                    refine lv_istore_n (lv' := [(2, .int _), (3, .int _), (0, .ref _), (1, .int _)]) X.1 X.2.1 dX12_readTown_233 rfl hl (by decide) rfl (fun ls hl => ?_)
                    refine lv_aload_n X.1 X.2.1 dX12_readTown_234 rfl (lv_at hl 2 rfl) ?_
                    refine lv_dup X.1 X.2.1 dX12_readTown_235 rfl ?_
                    refine g12_3 X I (k := 123) (by decide) rfl lf_X12_115 dX12_readTown_236 ?_
                    refine lv_iload_n X.1 X.2.1 dX12_readTown_239 rfl (lv_at hl 0 rfl) ?_
                    refine lv_if_eq (tgt := 247) X.1 X.2.1 dX12_readTown_240 (by decide) (fun c_32 => ?_) (fun c_32 => ?_)
                    · skip
                      refine lv_iconst (v := 0) X.1 X.2.1 dX12_readTown_247 (by decide) ?_
                      refine lv_iadd X.1 X.2.1 dX12_readTown_248 ?_
                      refine p12_3 X I (k := 123) (by decide) rfl lf_X12_115 dX12_readTown_249 (fun H locs I => ?_)
                      refine lv_goto (tgt := 49) X.1 X.2.1 dX12_readTown_252 (by decide) ?_
                      exact ih _ false _ _ _ _ I (lv_sub hl [2, 3, 0] rfl) ho (hE.trans (rfl))
                    · exact absurd c_32 (by decide)
                  · skip
                    have hE := ite_t hE c_31
                    have ho := ite_tP ho c_31
                    refine lv_aload_n X.1 X.2.1 dX12_readTown_219 rfl (lv_at hl 1 rfl) ?_
                    have ho7 := ho.1
                    have ho := ho.2
                    refine r_ei I (r_runV X I pk_X12_look (c12_look l G _ _ ho7) lm_X12_134 (by decide) (cl_12 rfl) rfl rfl rfl hl.1 rfl (Nat.le_of_ble_eq_true rfl) dX12_readTown_220 ⟨Nat.le_of_ble_eq_true rfl, Nat.le_of_ble_eq_true rfl⟩ ⟨Nat.le_refl 0, Nat.le_refl 0⟩) (fun H locs I => ?_)
                    refine lv_bipush (v := 59) X.1 X.2.1 dX12_readTown_223 (by decide) ?_
                    refine lv_icmp_ne (tgt := 232) X.1 X.2.1 dX12_readTown_225 (by decide) (fun c_33 => ?_) (fun c_33 => ?_)
                    · skip
                      have hE := ite_f hE c_33
                      have ho := ite_fP ho c_33
                      refine lv_iconst (v := 0) X.1 X.2.1 dX12_readTown_232 (by decide) ?_
                      refine lv_istore_n (lv' := [(2, .int _), (3, .int _), (0, .ref _), (1, .int _)]) X.1 X.2.1 dX12_readTown_233 rfl hl (by decide) rfl (fun ls hl => ?_)
                      refine lv_aload_n X.1 X.2.1 dX12_readTown_234 rfl (lv_at hl 2 rfl) ?_
                      refine lv_dup X.1 X.2.1 dX12_readTown_235 rfl ?_
                      refine g12_3 X I (k := 123) (by decide) rfl lf_X12_115 dX12_readTown_236 ?_
                      refine lv_iload_n X.1 X.2.1 dX12_readTown_239 rfl (lv_at hl 0 rfl) ?_
                      refine lv_if_eq (tgt := 247) X.1 X.2.1 dX12_readTown_240 (by decide) (fun c_34 => ?_) (fun c_34 => ?_)
                      · skip
                        refine lv_iconst (v := 0) X.1 X.2.1 dX12_readTown_247 (by decide) ?_
                        refine lv_iadd X.1 X.2.1 dX12_readTown_248 ?_
                        refine p12_3 X I (k := 123) (by decide) rfl lf_X12_115 dX12_readTown_249 (fun H locs I => ?_)
                        refine lv_goto (tgt := 49) X.1 X.2.1 dX12_readTown_252 (by decide) ?_
                        exact ih _ false _ _ _ _ I (lv_sub hl [2, 3, 0] rfl) ho (hE.trans (rfl))
                      · exact absurd c_34 (by decide)
                    · skip
                      have hE := ite_t hE c_33
                      have ho := ite_tP ho c_33
                      refine lv_iconst (v := 1) X.1 X.2.1 dX12_readTown_228 (by decide) ?_
                      refine lv_goto (tgt := 233) X.1 X.2.1 dX12_readTown_229 (by decide) ?_
                      refine lv_istore_n (lv' := [(2, .int _), (3, .int _), (0, .ref _), (1, .int _)]) X.1 X.2.1 dX12_readTown_233 rfl hl (by decide) rfl (fun ls hl => ?_)
                      refine lv_aload_n X.1 X.2.1 dX12_readTown_234 rfl (lv_at hl 2 rfl) ?_
                      refine lv_dup X.1 X.2.1 dX12_readTown_235 rfl ?_
                      refine g12_3 X I (k := 123) (by decide) rfl lf_X12_115 dX12_readTown_236 ?_
                      refine lv_iload_n X.1 X.2.1 dX12_readTown_239 rfl (lv_at hl 0 rfl) ?_
                      refine lv_if_eq (tgt := 247) X.1 X.2.1 dX12_readTown_240 (by decide) (fun c_35 => ?_) (fun c_35 => ?_)
                      · exact absurd c_35 (by decide)
                      · skip
                        refine lv_iconst (v := 1) X.1 X.2.1 dX12_readTown_243 (by decide) ?_
                        refine lv_goto (tgt := 248) X.1 X.2.1 dX12_readTown_244 (by decide) ?_
                        refine lv_iadd X.1 X.2.1 dX12_readTown_248 ?_
                        refine p12_3 X I (k := 123) (by decide) rfl lf_X12_115 dX12_readTown_249 (fun H locs I => ?_)
                        refine lv_goto (tgt := 49) X.1 X.2.1 dX12_readTown_252 (by decide) ?_
                        exact ih _ true _ _ _ _ I (lv_sub hl [2, 3, 0] rfl) ho (hE.trans (rfl))
                · skip
                  have hE := ite_f hE c_30
                  have ho := ite_fP ho c_30
                  refine lv_aload_n X.1 X.2.1 dX12_readTown_170 rfl (lv_at hl 1 rfl) ?_
                  refine lv_dup X.1 X.2.1 dX12_readTown_171 rfl ?_
                  refine g12_3 X I (k := 123) (by decide) rfl lf_X12_115 dX12_readTown_172 ?_
                  refine lv_iconst (v := 1) X.1 X.2.1 dX12_readTown_175 (by decide) ?_
                  refine lv_iadd X.1 X.2.1 dX12_readTown_176 ?_
                  refine p12_3 X I (k := 123) (by decide) rfl lf_X12_115 dX12_readTown_177 (fun H locs I => ?_)
                  refine lv_aload_n X.1 X.2.1 dX12_readTown_180 rfl (lv_at hl 1 rfl) ?_
                  refine lv_iload_n X.1 X.2.1 dX12_readTown_181 rfl (lv_at hl 0 rfl) ?_
                  refine lv_aload_n X.1 X.2.1 dX12_readTown_182 rfl (lv_at hl 1 rfl) ?_
                  refine g12_19 X I (k := 123) (by decide) rfl lf_X12_46 dX12_readTown_183 ?_
                  refine lv_aload_n X.1 X.2.1 dX12_readTown_186 rfl (lv_at hl 1 rfl) ?_
                  refine g12_21 X I (k := 123) (by decide) rfl lf_X12_247 dX12_readTown_187 ?_
                  refine lv_iconst (v := 1) X.1 X.2.1 dX12_readTown_190 (by decide) ?_
                  have ho8 := ho.1
                  have ho := ho.2
                  refine r_ev I (r_runV X I pk_X12_items (c12_items l G (k := 136) (n := 5) (by decide) rfl (by decide) _ _ _ _ _ ho8) lm_X12_250 (by decide) (cl_12 rfl) rfl rfl rfl hl.1 rfl (Nat.le_of_ble_eq_true rfl) dX12_readTown_191 ⟨Nat.le_of_ble_eq_true rfl, Nat.le_of_ble_eq_true rfl⟩ ⟨Nat.le_refl 0, Nat.le_refl 0⟩) (fun H locs I => ?_)
                  refine lv_aload_n X.1 X.2.1 dX12_readTown_194 rfl (lv_at hl 1 rfl) ?_
                  refine lv_dup X.1 X.2.1 dX12_readTown_195 rfl ?_
                  refine g12_21 X I (k := 123) (by decide) rfl lf_X12_247 dX12_readTown_196 ?_
                  refine lv_iconst (v := 1) X.1 X.2.1 dX12_readTown_199 (by decide) ?_
                  refine lv_iadd X.1 X.2.1 dX12_readTown_200 ?_
                  refine p12_21 X I (k := 123) (by decide) rfl lf_X12_247 dX12_readTown_201 (fun H locs I => ?_)
                  refine lv_goto (tgt := 211) X.1 X.2.1 dX12_readTown_204 (by decide) ?_
                  refine lv_aload_n X.1 X.2.1 dX12_readTown_211 rfl (lv_at hl 1 rfl) ?_
                  refine g12_4 X I (k := 123) (by decide) rfl lf_X12_122 dX12_readTown_212 ?_
                  refine lv_iconst (v := (-1)) X.1 X.2.1 dX12_readTown_215 (by decide) ?_
                  refine lv_icmp_ne (tgt := 232) X.1 X.2.1 dX12_readTown_216 (by decide) (fun c_36 => ?_) (fun c_36 => ?_)
                  · skip
                    have hE := ite_f hE c_36
                    have ho := ite_fP ho c_36
                    refine lv_iconst (v := 0) X.1 X.2.1 dX12_readTown_232 (by decide) ?_
                    refine lv_istore_n (lv' := [(2, .int _), (3, .int _), (0, .ref _), (1, .int _)]) X.1 X.2.1 dX12_readTown_233 rfl hl (by decide) rfl (fun ls hl => ?_)
                    refine lv_aload_n X.1 X.2.1 dX12_readTown_234 rfl (lv_at hl 2 rfl) ?_
                    refine lv_dup X.1 X.2.1 dX12_readTown_235 rfl ?_
                    refine g12_3 X I (k := 123) (by decide) rfl lf_X12_115 dX12_readTown_236 ?_
                    refine lv_iload_n X.1 X.2.1 dX12_readTown_239 rfl (lv_at hl 0 rfl) ?_
                    refine lv_if_eq (tgt := 247) X.1 X.2.1 dX12_readTown_240 (by decide) (fun c_37 => ?_) (fun c_37 => ?_)
                    · skip
                      refine lv_iconst (v := 0) X.1 X.2.1 dX12_readTown_247 (by decide) ?_
                      refine lv_iadd X.1 X.2.1 dX12_readTown_248 ?_
                      refine p12_3 X I (k := 123) (by decide) rfl lf_X12_115 dX12_readTown_249 (fun H locs I => ?_)
                      refine lv_goto (tgt := 49) X.1 X.2.1 dX12_readTown_252 (by decide) ?_
                      exact ih _ false _ _ _ _ I (lv_sub hl [2, 3, 0] rfl) ho (hE.trans (rfl))
                    · exact absurd c_37 (by decide)
                  · skip
                    have hE := ite_t hE c_36
                    have ho := ite_tP ho c_36
                    refine lv_aload_n X.1 X.2.1 dX12_readTown_219 rfl (lv_at hl 1 rfl) ?_
                    have ho9 := ho.1
                    have ho := ho.2
                    refine r_ei I (r_runV X I pk_X12_look (c12_look l G _ _ ho9) lm_X12_134 (by decide) (cl_12 rfl) rfl rfl rfl hl.1 rfl (Nat.le_of_ble_eq_true rfl) dX12_readTown_220 ⟨Nat.le_of_ble_eq_true rfl, Nat.le_of_ble_eq_true rfl⟩ ⟨Nat.le_refl 0, Nat.le_refl 0⟩) (fun H locs I => ?_)
                    refine lv_bipush (v := 59) X.1 X.2.1 dX12_readTown_223 (by decide) ?_
                    refine lv_icmp_ne (tgt := 232) X.1 X.2.1 dX12_readTown_225 (by decide) (fun c_38 => ?_) (fun c_38 => ?_)
                    · skip
                      have hE := ite_f hE c_38
                      have ho := ite_fP ho c_38
                      refine lv_iconst (v := 0) X.1 X.2.1 dX12_readTown_232 (by decide) ?_
                      refine lv_istore_n (lv' := [(2, .int _), (3, .int _), (0, .ref _), (1, .int _)]) X.1 X.2.1 dX12_readTown_233 rfl hl (by decide) rfl (fun ls hl => ?_)
                      refine lv_aload_n X.1 X.2.1 dX12_readTown_234 rfl (lv_at hl 2 rfl) ?_
                      refine lv_dup X.1 X.2.1 dX12_readTown_235 rfl ?_
                      refine g12_3 X I (k := 123) (by decide) rfl lf_X12_115 dX12_readTown_236 ?_
                      refine lv_iload_n X.1 X.2.1 dX12_readTown_239 rfl (lv_at hl 0 rfl) ?_
                      refine lv_if_eq (tgt := 247) X.1 X.2.1 dX12_readTown_240 (by decide) (fun c_39 => ?_) (fun c_39 => ?_)
                      · skip
                        refine lv_iconst (v := 0) X.1 X.2.1 dX12_readTown_247 (by decide) ?_
                        refine lv_iadd X.1 X.2.1 dX12_readTown_248 ?_
                        refine p12_3 X I (k := 123) (by decide) rfl lf_X12_115 dX12_readTown_249 (fun H locs I => ?_)
                        refine lv_goto (tgt := 49) X.1 X.2.1 dX12_readTown_252 (by decide) ?_
                        exact ih _ false _ _ _ _ I (lv_sub hl [2, 3, 0] rfl) ho (hE.trans (rfl))
                      · exact absurd c_39 (by decide)
                    · skip
                      have hE := ite_t hE c_38
                      have ho := ite_tP ho c_38
                      refine lv_iconst (v := 1) X.1 X.2.1 dX12_readTown_228 (by decide) ?_
                      refine lv_goto (tgt := 233) X.1 X.2.1 dX12_readTown_229 (by decide) ?_
                      refine lv_istore_n (lv' := [(2, .int _), (3, .int _), (0, .ref _), (1, .int _)]) X.1 X.2.1 dX12_readTown_233 rfl hl (by decide) rfl (fun ls hl => ?_)
                      refine lv_aload_n X.1 X.2.1 dX12_readTown_234 rfl (lv_at hl 2 rfl) ?_
                      refine lv_dup X.1 X.2.1 dX12_readTown_235 rfl ?_
                      refine g12_3 X I (k := 123) (by decide) rfl lf_X12_115 dX12_readTown_236 ?_
                      refine lv_iload_n X.1 X.2.1 dX12_readTown_239 rfl (lv_at hl 0 rfl) ?_
                      refine lv_if_eq (tgt := 247) X.1 X.2.1 dX12_readTown_240 (by decide) (fun c_40 => ?_) (fun c_40 => ?_)
                      · exact absurd c_40 (by decide)
                      · skip
                        refine lv_iconst (v := 1) X.1 X.2.1 dX12_readTown_243 (by decide) ?_
                        refine lv_goto (tgt := 248) X.1 X.2.1 dX12_readTown_244 (by decide) ?_
                        refine lv_iadd X.1 X.2.1 dX12_readTown_248 ?_
                        refine p12_3 X I (k := 123) (by decide) rfl lf_X12_115 dX12_readTown_249 (fun H locs I => ?_)
                        refine lv_goto (tgt := 49) X.1 X.2.1 dX12_readTown_252 (by decide) ?_
                        exact ih _ true _ _ _ _ I (lv_sub hl [2, 3, 0] rfl) ho (hE.trans (rfl))
            · skip
              have hE := ite_f hE c_23
              have ho := ite_fP ho c_23
              refine lv_aload_n X.1 X.2.1 dX12_readTown_117 rfl (lv_at hl 1 rfl) ?_
              refine lv_dup X.1 X.2.1 dX12_readTown_118 rfl ?_
              refine g12_3 X I (k := 123) (by decide) rfl lf_X12_115 dX12_readTown_119 ?_
              refine lv_iconst (v := 1) X.1 X.2.1 dX12_readTown_122 (by decide) ?_
              refine lv_iadd X.1 X.2.1 dX12_readTown_123 ?_
              refine p12_3 X I (k := 123) (by decide) rfl lf_X12_115 dX12_readTown_124 (fun H locs I => ?_)
              refine lv_aload_n X.1 X.2.1 dX12_readTown_127 rfl (lv_at hl 1 rfl) ?_
              refine lv_iload_n X.1 X.2.1 dX12_readTown_128 rfl (lv_at hl 0 rfl) ?_
              refine lv_aload_n X.1 X.2.1 dX12_readTown_129 rfl (lv_at hl 1 rfl) ?_
              refine g12_18 X I (k := 123) (by decide) rfl lf_X12_43 dX12_readTown_130 ?_
              refine lv_iconst (v := 4) X.1 X.2.1 dX12_readTown_133 (by decide) ?_
              refine lv_aload_n X.1 X.2.1 dX12_readTown_134 rfl (lv_at hl 1 rfl) ?_
              refine g12_20 X I (k := 123) (by decide) rfl lf_X12_244 dX12_readTown_135 ?_
              refine lv_imul X.1 X.2.1 dX12_readTown_138 ?_
              refine lv_iconst (v := 4) X.1 X.2.1 dX12_readTown_139 (by decide) ?_
              have ho10 := ho.1
              have ho := ho.2
              refine r_ev I (r_runV X I pk_X12_items (c12_items l G (k := 135) (n := 28) (by decide) rfl (by decide) _ _ _ _ _ ho10) lm_X12_250 (by decide) (cl_12 rfl) rfl rfl rfl hl.1 rfl (Nat.le_of_ble_eq_true rfl) dX12_readTown_140 ⟨Nat.le_of_ble_eq_true rfl, Nat.le_of_ble_eq_true rfl⟩ ⟨Nat.le_refl 0, Nat.le_refl 0⟩) (fun H locs I => ?_)
              refine lv_aload_n X.1 X.2.1 dX12_readTown_143 rfl (lv_at hl 1 rfl) ?_
              refine lv_dup X.1 X.2.1 dX12_readTown_144 rfl ?_
              refine g12_20 X I (k := 123) (by decide) rfl lf_X12_244 dX12_readTown_145 ?_
              refine lv_iconst (v := 1) X.1 X.2.1 dX12_readTown_148 (by decide) ?_
              refine lv_iadd X.1 X.2.1 dX12_readTown_149 ?_
              refine p12_20 X I (k := 123) (by decide) rfl lf_X12_244 dX12_readTown_150 (fun H locs I => ?_)
              refine lv_goto (tgt := 211) X.1 X.2.1 dX12_readTown_153 (by decide) ?_
              refine lv_aload_n X.1 X.2.1 dX12_readTown_211 rfl (lv_at hl 1 rfl) ?_
              refine g12_4 X I (k := 123) (by decide) rfl lf_X12_122 dX12_readTown_212 ?_
              refine lv_iconst (v := (-1)) X.1 X.2.1 dX12_readTown_215 (by decide) ?_
              refine lv_icmp_ne (tgt := 232) X.1 X.2.1 dX12_readTown_216 (by decide) (fun c_41 => ?_) (fun c_41 => ?_)
              · skip
                have hE := ite_f hE c_41
                have ho := ite_fP ho c_41
                refine lv_iconst (v := 0) X.1 X.2.1 dX12_readTown_232 (by decide) ?_
                refine lv_istore_n (lv' := [(2, .int _), (3, .int _), (0, .ref _), (1, .int _)]) X.1 X.2.1 dX12_readTown_233 rfl hl (by decide) rfl (fun ls hl => ?_)
                refine lv_aload_n X.1 X.2.1 dX12_readTown_234 rfl (lv_at hl 2 rfl) ?_
                refine lv_dup X.1 X.2.1 dX12_readTown_235 rfl ?_
                refine g12_3 X I (k := 123) (by decide) rfl lf_X12_115 dX12_readTown_236 ?_
                refine lv_iload_n X.1 X.2.1 dX12_readTown_239 rfl (lv_at hl 0 rfl) ?_
                refine lv_if_eq (tgt := 247) X.1 X.2.1 dX12_readTown_240 (by decide) (fun c_42 => ?_) (fun c_42 => ?_)
                · skip
                  refine lv_iconst (v := 0) X.1 X.2.1 dX12_readTown_247 (by decide) ?_
                  refine lv_iadd X.1 X.2.1 dX12_readTown_248 ?_
                  refine p12_3 X I (k := 123) (by decide) rfl lf_X12_115 dX12_readTown_249 (fun H locs I => ?_)
                  refine lv_goto (tgt := 49) X.1 X.2.1 dX12_readTown_252 (by decide) ?_
                  exact ih _ false _ _ _ _ I (lv_sub hl [2, 3, 0] rfl) ho (hE.trans (rfl))
                · exact absurd c_42 (by decide)
              · skip
                have hE := ite_t hE c_41
                have ho := ite_tP ho c_41
                refine lv_aload_n X.1 X.2.1 dX12_readTown_219 rfl (lv_at hl 1 rfl) ?_
                have ho11 := ho.1
                have ho := ho.2
                refine r_ei I (r_runV X I pk_X12_look (c12_look l G _ _ ho11) lm_X12_134 (by decide) (cl_12 rfl) rfl rfl rfl hl.1 rfl (Nat.le_of_ble_eq_true rfl) dX12_readTown_220 ⟨Nat.le_of_ble_eq_true rfl, Nat.le_of_ble_eq_true rfl⟩ ⟨Nat.le_refl 0, Nat.le_refl 0⟩) (fun H locs I => ?_)
                refine lv_bipush (v := 59) X.1 X.2.1 dX12_readTown_223 (by decide) ?_
                refine lv_icmp_ne (tgt := 232) X.1 X.2.1 dX12_readTown_225 (by decide) (fun c_43 => ?_) (fun c_43 => ?_)
                · skip
                  have hE := ite_f hE c_43
                  have ho := ite_fP ho c_43
                  refine lv_iconst (v := 0) X.1 X.2.1 dX12_readTown_232 (by decide) ?_
                  refine lv_istore_n (lv' := [(2, .int _), (3, .int _), (0, .ref _), (1, .int _)]) X.1 X.2.1 dX12_readTown_233 rfl hl (by decide) rfl (fun ls hl => ?_)
                  refine lv_aload_n X.1 X.2.1 dX12_readTown_234 rfl (lv_at hl 2 rfl) ?_
                  refine lv_dup X.1 X.2.1 dX12_readTown_235 rfl ?_
                  refine g12_3 X I (k := 123) (by decide) rfl lf_X12_115 dX12_readTown_236 ?_
                  refine lv_iload_n X.1 X.2.1 dX12_readTown_239 rfl (lv_at hl 0 rfl) ?_
                  refine lv_if_eq (tgt := 247) X.1 X.2.1 dX12_readTown_240 (by decide) (fun c_44 => ?_) (fun c_44 => ?_)
                  · skip
                    refine lv_iconst (v := 0) X.1 X.2.1 dX12_readTown_247 (by decide) ?_
                    refine lv_iadd X.1 X.2.1 dX12_readTown_248 ?_
                    refine p12_3 X I (k := 123) (by decide) rfl lf_X12_115 dX12_readTown_249 (fun H locs I => ?_)
                    refine lv_goto (tgt := 49) X.1 X.2.1 dX12_readTown_252 (by decide) ?_
                    exact ih _ false _ _ _ _ I (lv_sub hl [2, 3, 0] rfl) ho (hE.trans (rfl))
                  · exact absurd c_44 (by decide)
                · skip
                  have hE := ite_t hE c_43
                  have ho := ite_tP ho c_43
                  refine lv_iconst (v := 1) X.1 X.2.1 dX12_readTown_228 (by decide) ?_
                  refine lv_goto (tgt := 233) X.1 X.2.1 dX12_readTown_229 (by decide) ?_
                  refine lv_istore_n (lv' := [(2, .int _), (3, .int _), (0, .ref _), (1, .int _)]) X.1 X.2.1 dX12_readTown_233 rfl hl (by decide) rfl (fun ls hl => ?_)
                  refine lv_aload_n X.1 X.2.1 dX12_readTown_234 rfl (lv_at hl 2 rfl) ?_
                  refine lv_dup X.1 X.2.1 dX12_readTown_235 rfl ?_
                  refine g12_3 X I (k := 123) (by decide) rfl lf_X12_115 dX12_readTown_236 ?_
                  refine lv_iload_n X.1 X.2.1 dX12_readTown_239 rfl (lv_at hl 0 rfl) ?_
                  refine lv_if_eq (tgt := 247) X.1 X.2.1 dX12_readTown_240 (by decide) (fun c_45 => ?_) (fun c_45 => ?_)
                  · exact absurd c_45 (by decide)
                  · skip
                    refine lv_iconst (v := 1) X.1 X.2.1 dX12_readTown_243 (by decide) ?_
                    refine lv_goto (tgt := 248) X.1 X.2.1 dX12_readTown_244 (by decide) ?_
                    refine lv_iadd X.1 X.2.1 dX12_readTown_248 ?_
                    refine p12_3 X I (k := 123) (by decide) rfl lf_X12_115 dX12_readTown_249 (fun H locs I => ?_)
                    refine lv_goto (tgt := 49) X.1 X.2.1 dX12_readTown_252 (by decide) ?_
                    exact ih _ true _ _ _ _ I (lv_sub hl [2, 3, 0] rfl) ho (hE.trans (rfl))
        · skip
          have hE := ite_t hE c_4
          have ho := ite_tP ho c_4
          refine lv_iload_n X.1 X.2.1 dX12_readTown_72 rfl (lv_at hl 2 rfl) ?_
          refine lv_if_ne (tgt := 102) X.1 X.2.1 dX12_readTown_73 (by decide) (fun c_46 => ?_) (fun c_46 => ?_)
          · skip
            have hE := ite_t hE (b2i_y c_46)
            have ho := ite_tP ho (b2i_y c_46)
            refine lv_iload_n X.1 X.2.1 dX12_readTown_102 rfl (lv_at hl 0 rfl) ?_
            refine lv_bipush (v := 104) X.1 X.2.1 dX12_readTown_103 (by decide) ?_
            refine lv_icmp_ne (tgt := 156) X.1 X.2.1 dX12_readTown_105 (by decide) (fun c_47 => ?_) (fun c_47 => ?_)
            · skip
              have hE := ite_f hE c_47
              have ho := ite_fP ho c_47
              refine lv_iload_n X.1 X.2.1 dX12_readTown_156 rfl (lv_at hl 0 rfl) ?_
              refine lv_bipush (v := 98) X.1 X.2.1 dX12_readTown_157 (by decide) ?_
              refine lv_icmp_ne (tgt := 207) X.1 X.2.1 dX12_readTown_159 (by decide) (fun c_48 => ?_) (fun c_48 => ?_)
              · skip
                have hE := ite_f hE c_48
                have ho := ite_fP ho c_48
                refine lv_aload_n X.1 X.2.1 dX12_readTown_207 rfl (lv_at hl 1 rfl) ?_
                refine r_ev I (r_runV X I pk_X12_bad (c12_bad l G _ _) lm_X12_131 (by decide) (cl_12 rfl) rfl rfl rfl hl.1 rfl (Nat.le_of_ble_eq_true rfl) dX12_readTown_208 ⟨Nat.le_of_ble_eq_true rfl, Nat.le_of_ble_eq_true rfl⟩ ⟨Nat.le_refl 0, Nat.le_refl 0⟩) (fun H locs I => ?_)
                refine lv_aload_n X.1 X.2.1 dX12_readTown_211 rfl (lv_at hl 1 rfl) ?_
                refine g12_4 X I (k := 123) (by decide) rfl lf_X12_122 dX12_readTown_212 ?_
                refine lv_iconst (v := (-1)) X.1 X.2.1 dX12_readTown_215 (by decide) ?_
                refine lv_icmp_ne (tgt := 232) X.1 X.2.1 dX12_readTown_216 (by decide) (fun c_49 => ?_) (fun c_49 => ?_)
                · skip
                  have hE := ite_f hE c_49
                  have ho := ite_fP ho c_49
                  refine lv_iconst (v := 0) X.1 X.2.1 dX12_readTown_232 (by decide) ?_
                  refine lv_istore_n (lv' := [(2, .int _), (3, .int _), (0, .ref _), (1, .int _)]) X.1 X.2.1 dX12_readTown_233 rfl hl (by decide) rfl (fun ls hl => ?_)
                  refine lv_aload_n X.1 X.2.1 dX12_readTown_234 rfl (lv_at hl 2 rfl) ?_
                  refine lv_dup X.1 X.2.1 dX12_readTown_235 rfl ?_
                  refine g12_3 X I (k := 123) (by decide) rfl lf_X12_115 dX12_readTown_236 ?_
                  refine lv_iload_n X.1 X.2.1 dX12_readTown_239 rfl (lv_at hl 0 rfl) ?_
                  refine lv_if_eq (tgt := 247) X.1 X.2.1 dX12_readTown_240 (by decide) (fun c_50 => ?_) (fun c_50 => ?_)
                  · skip
                    refine lv_iconst (v := 0) X.1 X.2.1 dX12_readTown_247 (by decide) ?_
                    refine lv_iadd X.1 X.2.1 dX12_readTown_248 ?_
                    refine p12_3 X I (k := 123) (by decide) rfl lf_X12_115 dX12_readTown_249 (fun H locs I => ?_)
                    refine lv_goto (tgt := 49) X.1 X.2.1 dX12_readTown_252 (by decide) ?_
                    exact ih _ false _ _ _ _ I (lv_sub hl [2, 3, 0] rfl) ho (hE.trans (rfl))
                  · exact absurd c_50 (by decide)
                · skip
                  have hE := ite_t hE c_49
                  have ho := ite_tP ho c_49
                  refine lv_aload_n X.1 X.2.1 dX12_readTown_219 rfl (lv_at hl 1 rfl) ?_
                  have ho12 := ho.1
                  have ho := ho.2
                  refine r_ei I (r_runV X I pk_X12_look (c12_look l G _ _ ho12) lm_X12_134 (by decide) (cl_12 rfl) rfl rfl rfl hl.1 rfl (Nat.le_of_ble_eq_true rfl) dX12_readTown_220 ⟨Nat.le_of_ble_eq_true rfl, Nat.le_of_ble_eq_true rfl⟩ ⟨Nat.le_refl 0, Nat.le_refl 0⟩) (fun H locs I => ?_)
                  refine lv_bipush (v := 59) X.1 X.2.1 dX12_readTown_223 (by decide) ?_
                  refine lv_icmp_ne (tgt := 232) X.1 X.2.1 dX12_readTown_225 (by decide) (fun c_51 => ?_) (fun c_51 => ?_)
                  · skip
                    have hE := ite_f hE c_51
                    have ho := ite_fP ho c_51
                    refine lv_iconst (v := 0) X.1 X.2.1 dX12_readTown_232 (by decide) ?_
                    refine lv_istore_n (lv' := [(2, .int _), (3, .int _), (0, .ref _), (1, .int _)]) X.1 X.2.1 dX12_readTown_233 rfl hl (by decide) rfl (fun ls hl => ?_)
                    refine lv_aload_n X.1 X.2.1 dX12_readTown_234 rfl (lv_at hl 2 rfl) ?_
                    refine lv_dup X.1 X.2.1 dX12_readTown_235 rfl ?_
                    refine g12_3 X I (k := 123) (by decide) rfl lf_X12_115 dX12_readTown_236 ?_
                    refine lv_iload_n X.1 X.2.1 dX12_readTown_239 rfl (lv_at hl 0 rfl) ?_
                    refine lv_if_eq (tgt := 247) X.1 X.2.1 dX12_readTown_240 (by decide) (fun c_52 => ?_) (fun c_52 => ?_)
                    · skip
                      refine lv_iconst (v := 0) X.1 X.2.1 dX12_readTown_247 (by decide) ?_
                      refine lv_iadd X.1 X.2.1 dX12_readTown_248 ?_
                      refine p12_3 X I (k := 123) (by decide) rfl lf_X12_115 dX12_readTown_249 (fun H locs I => ?_)
                      refine lv_goto (tgt := 49) X.1 X.2.1 dX12_readTown_252 (by decide) ?_
                      exact ih _ false _ _ _ _ I (lv_sub hl [2, 3, 0] rfl) ho (hE.trans (rfl))
                    · exact absurd c_52 (by decide)
                  · skip
                    have hE := ite_t hE c_51
                    have ho := ite_tP ho c_51
                    refine lv_iconst (v := 1) X.1 X.2.1 dX12_readTown_228 (by decide) ?_
                    refine lv_goto (tgt := 233) X.1 X.2.1 dX12_readTown_229 (by decide) ?_
                    refine lv_istore_n (lv' := [(2, .int _), (3, .int _), (0, .ref _), (1, .int _)]) X.1 X.2.1 dX12_readTown_233 rfl hl (by decide) rfl (fun ls hl => ?_)
                    refine lv_aload_n X.1 X.2.1 dX12_readTown_234 rfl (lv_at hl 2 rfl) ?_
                    refine lv_dup X.1 X.2.1 dX12_readTown_235 rfl ?_
                    refine g12_3 X I (k := 123) (by decide) rfl lf_X12_115 dX12_readTown_236 ?_
                    refine lv_iload_n X.1 X.2.1 dX12_readTown_239 rfl (lv_at hl 0 rfl) ?_
                    refine lv_if_eq (tgt := 247) X.1 X.2.1 dX12_readTown_240 (by decide) (fun c_53 => ?_) (fun c_53 => ?_)
                    · exact absurd c_53 (by decide)
                    · skip
                      refine lv_iconst (v := 1) X.1 X.2.1 dX12_readTown_243 (by decide) ?_
                      refine lv_goto (tgt := 248) X.1 X.2.1 dX12_readTown_244 (by decide) ?_
                      refine lv_iadd X.1 X.2.1 dX12_readTown_248 ?_
                      refine p12_3 X I (k := 123) (by decide) rfl lf_X12_115 dX12_readTown_249 (fun H locs I => ?_)
                      refine lv_goto (tgt := 49) X.1 X.2.1 dX12_readTown_252 (by decide) ?_
                      exact ih _ true _ _ _ _ I (lv_sub hl [2, 3, 0] rfl) ho (hE.trans (rfl))
              · skip
                have hE := ite_t hE c_48
                have ho := ite_tP ho c_48
                refine lv_aload_n X.1 X.2.1 dX12_readTown_162 rfl (lv_at hl 1 rfl) ?_
                refine g12_21 X I (k := 123) (by decide) rfl lf_X12_247 dX12_readTown_163 ?_
                refine lv_iconst (v := 5) X.1 X.2.1 dX12_readTown_166 (by decide) ?_
                refine lv_icmp_ge (tgt := 207) X.1 X.2.1 dX12_readTown_167 (by decide) (fun c_54 => ?_) (fun c_54 => ?_)
                · skip
                  have hE := ite_t hE c_54
                  have ho := ite_tP ho c_54
                  refine lv_aload_n X.1 X.2.1 dX12_readTown_207 rfl (lv_at hl 1 rfl) ?_
                  refine r_ev I (r_runV X I pk_X12_bad (c12_bad l G _ _) lm_X12_131 (by decide) (cl_12 rfl) rfl rfl rfl hl.1 rfl (Nat.le_of_ble_eq_true rfl) dX12_readTown_208 ⟨Nat.le_of_ble_eq_true rfl, Nat.le_of_ble_eq_true rfl⟩ ⟨Nat.le_refl 0, Nat.le_refl 0⟩) (fun H locs I => ?_)
                  refine lv_aload_n X.1 X.2.1 dX12_readTown_211 rfl (lv_at hl 1 rfl) ?_
                  refine g12_4 X I (k := 123) (by decide) rfl lf_X12_122 dX12_readTown_212 ?_
                  refine lv_iconst (v := (-1)) X.1 X.2.1 dX12_readTown_215 (by decide) ?_
                  refine lv_icmp_ne (tgt := 232) X.1 X.2.1 dX12_readTown_216 (by decide) (fun c_55 => ?_) (fun c_55 => ?_)
                  · skip
                    have hE := ite_f hE c_55
                    have ho := ite_fP ho c_55
                    refine lv_iconst (v := 0) X.1 X.2.1 dX12_readTown_232 (by decide) ?_
                    refine lv_istore_n (lv' := [(2, .int _), (3, .int _), (0, .ref _), (1, .int _)]) X.1 X.2.1 dX12_readTown_233 rfl hl (by decide) rfl (fun ls hl => ?_)
                    refine lv_aload_n X.1 X.2.1 dX12_readTown_234 rfl (lv_at hl 2 rfl) ?_
                    refine lv_dup X.1 X.2.1 dX12_readTown_235 rfl ?_
                    refine g12_3 X I (k := 123) (by decide) rfl lf_X12_115 dX12_readTown_236 ?_
                    refine lv_iload_n X.1 X.2.1 dX12_readTown_239 rfl (lv_at hl 0 rfl) ?_
                    refine lv_if_eq (tgt := 247) X.1 X.2.1 dX12_readTown_240 (by decide) (fun c_56 => ?_) (fun c_56 => ?_)
                    · skip
                      refine lv_iconst (v := 0) X.1 X.2.1 dX12_readTown_247 (by decide) ?_
                      refine lv_iadd X.1 X.2.1 dX12_readTown_248 ?_
                      refine p12_3 X I (k := 123) (by decide) rfl lf_X12_115 dX12_readTown_249 (fun H locs I => ?_)
                      refine lv_goto (tgt := 49) X.1 X.2.1 dX12_readTown_252 (by decide) ?_
                      exact ih _ false _ _ _ _ I (lv_sub hl [2, 3, 0] rfl) ho (hE.trans (rfl))
                    · exact absurd c_56 (by decide)
                  · skip
                    have hE := ite_t hE c_55
                    have ho := ite_tP ho c_55
                    refine lv_aload_n X.1 X.2.1 dX12_readTown_219 rfl (lv_at hl 1 rfl) ?_
                    have ho13 := ho.1
                    have ho := ho.2
                    refine r_ei I (r_runV X I pk_X12_look (c12_look l G _ _ ho13) lm_X12_134 (by decide) (cl_12 rfl) rfl rfl rfl hl.1 rfl (Nat.le_of_ble_eq_true rfl) dX12_readTown_220 ⟨Nat.le_of_ble_eq_true rfl, Nat.le_of_ble_eq_true rfl⟩ ⟨Nat.le_refl 0, Nat.le_refl 0⟩) (fun H locs I => ?_)
                    refine lv_bipush (v := 59) X.1 X.2.1 dX12_readTown_223 (by decide) ?_
                    refine lv_icmp_ne (tgt := 232) X.1 X.2.1 dX12_readTown_225 (by decide) (fun c_57 => ?_) (fun c_57 => ?_)
                    · skip
                      have hE := ite_f hE c_57
                      have ho := ite_fP ho c_57
                      refine lv_iconst (v := 0) X.1 X.2.1 dX12_readTown_232 (by decide) ?_
                      refine lv_istore_n (lv' := [(2, .int _), (3, .int _), (0, .ref _), (1, .int _)]) X.1 X.2.1 dX12_readTown_233 rfl hl (by decide) rfl (fun ls hl => ?_)
                      refine lv_aload_n X.1 X.2.1 dX12_readTown_234 rfl (lv_at hl 2 rfl) ?_
                      refine lv_dup X.1 X.2.1 dX12_readTown_235 rfl ?_
                      refine g12_3 X I (k := 123) (by decide) rfl lf_X12_115 dX12_readTown_236 ?_
                      refine lv_iload_n X.1 X.2.1 dX12_readTown_239 rfl (lv_at hl 0 rfl) ?_
                      refine lv_if_eq (tgt := 247) X.1 X.2.1 dX12_readTown_240 (by decide) (fun c_58 => ?_) (fun c_58 => ?_)
                      · skip
                        refine lv_iconst (v := 0) X.1 X.2.1 dX12_readTown_247 (by decide) ?_
                        refine lv_iadd X.1 X.2.1 dX12_readTown_248 ?_
                        refine p12_3 X I (k := 123) (by decide) rfl lf_X12_115 dX12_readTown_249 (fun H locs I => ?_)
                        refine lv_goto (tgt := 49) X.1 X.2.1 dX12_readTown_252 (by decide) ?_
                        exact ih _ false _ _ _ _ I (lv_sub hl [2, 3, 0] rfl) ho (hE.trans (rfl))
                      · exact absurd c_58 (by decide)
                    · skip
                      have hE := ite_t hE c_57
                      have ho := ite_tP ho c_57
                      refine lv_iconst (v := 1) X.1 X.2.1 dX12_readTown_228 (by decide) ?_
                      refine lv_goto (tgt := 233) X.1 X.2.1 dX12_readTown_229 (by decide) ?_
                      refine lv_istore_n (lv' := [(2, .int _), (3, .int _), (0, .ref _), (1, .int _)]) X.1 X.2.1 dX12_readTown_233 rfl hl (by decide) rfl (fun ls hl => ?_)
                      refine lv_aload_n X.1 X.2.1 dX12_readTown_234 rfl (lv_at hl 2 rfl) ?_
                      refine lv_dup X.1 X.2.1 dX12_readTown_235 rfl ?_
                      refine g12_3 X I (k := 123) (by decide) rfl lf_X12_115 dX12_readTown_236 ?_
                      refine lv_iload_n X.1 X.2.1 dX12_readTown_239 rfl (lv_at hl 0 rfl) ?_
                      refine lv_if_eq (tgt := 247) X.1 X.2.1 dX12_readTown_240 (by decide) (fun c_59 => ?_) (fun c_59 => ?_)
                      · exact absurd c_59 (by decide)
                      · skip
                        refine lv_iconst (v := 1) X.1 X.2.1 dX12_readTown_243 (by decide) ?_
                        refine lv_goto (tgt := 248) X.1 X.2.1 dX12_readTown_244 (by decide) ?_
                        refine lv_iadd X.1 X.2.1 dX12_readTown_248 ?_
                        refine p12_3 X I (k := 123) (by decide) rfl lf_X12_115 dX12_readTown_249 (fun H locs I => ?_)
                        refine lv_goto (tgt := 49) X.1 X.2.1 dX12_readTown_252 (by decide) ?_
                        exact ih _ true _ _ _ _ I (lv_sub hl [2, 3, 0] rfl) ho (hE.trans (rfl))
                · skip
                  have hE := ite_f hE c_54
                  have ho := ite_fP ho c_54
                  refine lv_aload_n X.1 X.2.1 dX12_readTown_170 rfl (lv_at hl 1 rfl) ?_
                  refine lv_dup X.1 X.2.1 dX12_readTown_171 rfl ?_
                  refine g12_3 X I (k := 123) (by decide) rfl lf_X12_115 dX12_readTown_172 ?_
                  refine lv_iconst (v := 1) X.1 X.2.1 dX12_readTown_175 (by decide) ?_
                  refine lv_iadd X.1 X.2.1 dX12_readTown_176 ?_
                  refine p12_3 X I (k := 123) (by decide) rfl lf_X12_115 dX12_readTown_177 (fun H locs I => ?_)
                  refine lv_aload_n X.1 X.2.1 dX12_readTown_180 rfl (lv_at hl 1 rfl) ?_
                  refine lv_iload_n X.1 X.2.1 dX12_readTown_181 rfl (lv_at hl 0 rfl) ?_
                  refine lv_aload_n X.1 X.2.1 dX12_readTown_182 rfl (lv_at hl 1 rfl) ?_
                  refine g12_19 X I (k := 123) (by decide) rfl lf_X12_46 dX12_readTown_183 ?_
                  refine lv_aload_n X.1 X.2.1 dX12_readTown_186 rfl (lv_at hl 1 rfl) ?_
                  refine g12_21 X I (k := 123) (by decide) rfl lf_X12_247 dX12_readTown_187 ?_
                  refine lv_iconst (v := 1) X.1 X.2.1 dX12_readTown_190 (by decide) ?_
                  have ho14 := ho.1
                  have ho := ho.2
                  refine r_ev I (r_runV X I pk_X12_items (c12_items l G (k := 136) (n := 5) (by decide) rfl (by decide) _ _ _ _ _ ho14) lm_X12_250 (by decide) (cl_12 rfl) rfl rfl rfl hl.1 rfl (Nat.le_of_ble_eq_true rfl) dX12_readTown_191 ⟨Nat.le_of_ble_eq_true rfl, Nat.le_of_ble_eq_true rfl⟩ ⟨Nat.le_refl 0, Nat.le_refl 0⟩) (fun H locs I => ?_)
                  refine lv_aload_n X.1 X.2.1 dX12_readTown_194 rfl (lv_at hl 1 rfl) ?_
                  refine lv_dup X.1 X.2.1 dX12_readTown_195 rfl ?_
                  refine g12_21 X I (k := 123) (by decide) rfl lf_X12_247 dX12_readTown_196 ?_
                  refine lv_iconst (v := 1) X.1 X.2.1 dX12_readTown_199 (by decide) ?_
                  refine lv_iadd X.1 X.2.1 dX12_readTown_200 ?_
                  refine p12_21 X I (k := 123) (by decide) rfl lf_X12_247 dX12_readTown_201 (fun H locs I => ?_)
                  refine lv_goto (tgt := 211) X.1 X.2.1 dX12_readTown_204 (by decide) ?_
                  refine lv_aload_n X.1 X.2.1 dX12_readTown_211 rfl (lv_at hl 1 rfl) ?_
                  refine g12_4 X I (k := 123) (by decide) rfl lf_X12_122 dX12_readTown_212 ?_
                  refine lv_iconst (v := (-1)) X.1 X.2.1 dX12_readTown_215 (by decide) ?_
                  refine lv_icmp_ne (tgt := 232) X.1 X.2.1 dX12_readTown_216 (by decide) (fun c_60 => ?_) (fun c_60 => ?_)
                  · skip
                    have hE := ite_f hE c_60
                    have ho := ite_fP ho c_60
                    refine lv_iconst (v := 0) X.1 X.2.1 dX12_readTown_232 (by decide) ?_
                    refine lv_istore_n (lv' := [(2, .int _), (3, .int _), (0, .ref _), (1, .int _)]) X.1 X.2.1 dX12_readTown_233 rfl hl (by decide) rfl (fun ls hl => ?_)
                    refine lv_aload_n X.1 X.2.1 dX12_readTown_234 rfl (lv_at hl 2 rfl) ?_
                    refine lv_dup X.1 X.2.1 dX12_readTown_235 rfl ?_
                    refine g12_3 X I (k := 123) (by decide) rfl lf_X12_115 dX12_readTown_236 ?_
                    refine lv_iload_n X.1 X.2.1 dX12_readTown_239 rfl (lv_at hl 0 rfl) ?_
                    refine lv_if_eq (tgt := 247) X.1 X.2.1 dX12_readTown_240 (by decide) (fun c_61 => ?_) (fun c_61 => ?_)
                    · skip
                      refine lv_iconst (v := 0) X.1 X.2.1 dX12_readTown_247 (by decide) ?_
                      refine lv_iadd X.1 X.2.1 dX12_readTown_248 ?_
                      refine p12_3 X I (k := 123) (by decide) rfl lf_X12_115 dX12_readTown_249 (fun H locs I => ?_)
                      refine lv_goto (tgt := 49) X.1 X.2.1 dX12_readTown_252 (by decide) ?_
                      exact ih _ false _ _ _ _ I (lv_sub hl [2, 3, 0] rfl) ho (hE.trans (rfl))
                    · exact absurd c_61 (by decide)
                  · skip
                    have hE := ite_t hE c_60
                    have ho := ite_tP ho c_60
                    refine lv_aload_n X.1 X.2.1 dX12_readTown_219 rfl (lv_at hl 1 rfl) ?_
                    have ho15 := ho.1
                    have ho := ho.2
                    refine r_ei I (r_runV X I pk_X12_look (c12_look l G _ _ ho15) lm_X12_134 (by decide) (cl_12 rfl) rfl rfl rfl hl.1 rfl (Nat.le_of_ble_eq_true rfl) dX12_readTown_220 ⟨Nat.le_of_ble_eq_true rfl, Nat.le_of_ble_eq_true rfl⟩ ⟨Nat.le_refl 0, Nat.le_refl 0⟩) (fun H locs I => ?_)
                    refine lv_bipush (v := 59) X.1 X.2.1 dX12_readTown_223 (by decide) ?_
                    refine lv_icmp_ne (tgt := 232) X.1 X.2.1 dX12_readTown_225 (by decide) (fun c_62 => ?_) (fun c_62 => ?_)
                    · skip
                      have hE := ite_f hE c_62
                      have ho := ite_fP ho c_62
                      refine lv_iconst (v := 0) X.1 X.2.1 dX12_readTown_232 (by decide) ?_
                      refine lv_istore_n (lv' := [(2, .int _), (3, .int _), (0, .ref _), (1, .int _)]) X.1 X.2.1 dX12_readTown_233 rfl hl (by decide) rfl (fun ls hl => ?_)
                      refine lv_aload_n X.1 X.2.1 dX12_readTown_234 rfl (lv_at hl 2 rfl) ?_
                      refine lv_dup X.1 X.2.1 dX12_readTown_235 rfl ?_
                      refine g12_3 X I (k := 123) (by decide) rfl lf_X12_115 dX12_readTown_236 ?_
                      refine lv_iload_n X.1 X.2.1 dX12_readTown_239 rfl (lv_at hl 0 rfl) ?_
                      refine lv_if_eq (tgt := 247) X.1 X.2.1 dX12_readTown_240 (by decide) (fun c_63 => ?_) (fun c_63 => ?_)
                      · skip
                        refine lv_iconst (v := 0) X.1 X.2.1 dX12_readTown_247 (by decide) ?_
                        refine lv_iadd X.1 X.2.1 dX12_readTown_248 ?_
                        refine p12_3 X I (k := 123) (by decide) rfl lf_X12_115 dX12_readTown_249 (fun H locs I => ?_)
                        refine lv_goto (tgt := 49) X.1 X.2.1 dX12_readTown_252 (by decide) ?_
                        exact ih _ false _ _ _ _ I (lv_sub hl [2, 3, 0] rfl) ho (hE.trans (rfl))
                      · exact absurd c_63 (by decide)
                    · skip
                      have hE := ite_t hE c_62
                      have ho := ite_tP ho c_62
                      refine lv_iconst (v := 1) X.1 X.2.1 dX12_readTown_228 (by decide) ?_
                      refine lv_goto (tgt := 233) X.1 X.2.1 dX12_readTown_229 (by decide) ?_
                      refine lv_istore_n (lv' := [(2, .int _), (3, .int _), (0, .ref _), (1, .int _)]) X.1 X.2.1 dX12_readTown_233 rfl hl (by decide) rfl (fun ls hl => ?_)
                      refine lv_aload_n X.1 X.2.1 dX12_readTown_234 rfl (lv_at hl 2 rfl) ?_
                      refine lv_dup X.1 X.2.1 dX12_readTown_235 rfl ?_
                      refine g12_3 X I (k := 123) (by decide) rfl lf_X12_115 dX12_readTown_236 ?_
                      refine lv_iload_n X.1 X.2.1 dX12_readTown_239 rfl (lv_at hl 0 rfl) ?_
                      refine lv_if_eq (tgt := 247) X.1 X.2.1 dX12_readTown_240 (by decide) (fun c_64 => ?_) (fun c_64 => ?_)
                      · exact absurd c_64 (by decide)
                      · skip
                        refine lv_iconst (v := 1) X.1 X.2.1 dX12_readTown_243 (by decide) ?_
                        refine lv_goto (tgt := 248) X.1 X.2.1 dX12_readTown_244 (by decide) ?_
                        refine lv_iadd X.1 X.2.1 dX12_readTown_248 ?_
                        refine p12_3 X I (k := 123) (by decide) rfl lf_X12_115 dX12_readTown_249 (fun H locs I => ?_)
                        refine lv_goto (tgt := 49) X.1 X.2.1 dX12_readTown_252 (by decide) ?_
                        exact ih _ true _ _ _ _ I (lv_sub hl [2, 3, 0] rfl) ho (hE.trans (rfl))
            · skip
              have hE := ite_t hE c_47
              have ho := ite_tP ho c_47
              refine lv_aload_n X.1 X.2.1 dX12_readTown_108 rfl (lv_at hl 1 rfl) ?_
              refine g12_20 X I (k := 123) (by decide) rfl lf_X12_244 dX12_readTown_109 ?_
              refine lv_bipush (v := 7) X.1 X.2.1 dX12_readTown_112 (by decide) ?_
              refine lv_icmp_ge (tgt := 156) X.1 X.2.1 dX12_readTown_114 (by decide) (fun c_65 => ?_) (fun c_65 => ?_)
              · skip
                have hE := ite_t hE c_65
                have ho := ite_tP ho c_65
                refine lv_iload_n X.1 X.2.1 dX12_readTown_156 rfl (lv_at hl 0 rfl) ?_
                refine lv_bipush (v := 98) X.1 X.2.1 dX12_readTown_157 (by decide) ?_
                refine lv_icmp_ne (tgt := 207) X.1 X.2.1 dX12_readTown_159 (by decide) (fun c_66 => ?_) (fun c_66 => ?_)
                · skip
                  have hE := ite_f hE c_66
                  have ho := ite_fP ho c_66
                  refine lv_aload_n X.1 X.2.1 dX12_readTown_207 rfl (lv_at hl 1 rfl) ?_
                  refine r_ev I (r_runV X I pk_X12_bad (c12_bad l G _ _) lm_X12_131 (by decide) (cl_12 rfl) rfl rfl rfl hl.1 rfl (Nat.le_of_ble_eq_true rfl) dX12_readTown_208 ⟨Nat.le_of_ble_eq_true rfl, Nat.le_of_ble_eq_true rfl⟩ ⟨Nat.le_refl 0, Nat.le_refl 0⟩) (fun H locs I => ?_)
                  refine lv_aload_n X.1 X.2.1 dX12_readTown_211 rfl (lv_at hl 1 rfl) ?_
                  refine g12_4 X I (k := 123) (by decide) rfl lf_X12_122 dX12_readTown_212 ?_
                  refine lv_iconst (v := (-1)) X.1 X.2.1 dX12_readTown_215 (by decide) ?_
                  refine lv_icmp_ne (tgt := 232) X.1 X.2.1 dX12_readTown_216 (by decide) (fun c_67 => ?_) (fun c_67 => ?_)
                  · skip
                    have hE := ite_f hE c_67
                    have ho := ite_fP ho c_67
                    refine lv_iconst (v := 0) X.1 X.2.1 dX12_readTown_232 (by decide) ?_
                    refine lv_istore_n (lv' := [(2, .int _), (3, .int _), (0, .ref _), (1, .int _)]) X.1 X.2.1 dX12_readTown_233 rfl hl (by decide) rfl (fun ls hl => ?_)
                    refine lv_aload_n X.1 X.2.1 dX12_readTown_234 rfl (lv_at hl 2 rfl) ?_
                    refine lv_dup X.1 X.2.1 dX12_readTown_235 rfl ?_
                    refine g12_3 X I (k := 123) (by decide) rfl lf_X12_115 dX12_readTown_236 ?_
                    refine lv_iload_n X.1 X.2.1 dX12_readTown_239 rfl (lv_at hl 0 rfl) ?_
                    refine lv_if_eq (tgt := 247) X.1 X.2.1 dX12_readTown_240 (by decide) (fun c_68 => ?_) (fun c_68 => ?_)
                    · skip
                      refine lv_iconst (v := 0) X.1 X.2.1 dX12_readTown_247 (by decide) ?_
                      refine lv_iadd X.1 X.2.1 dX12_readTown_248 ?_
                      refine p12_3 X I (k := 123) (by decide) rfl lf_X12_115 dX12_readTown_249 (fun H locs I => ?_)
                      refine lv_goto (tgt := 49) X.1 X.2.1 dX12_readTown_252 (by decide) ?_
                      exact ih _ false _ _ _ _ I (lv_sub hl [2, 3, 0] rfl) ho (hE.trans (rfl))
                    · exact absurd c_68 (by decide)
                  · skip
                    have hE := ite_t hE c_67
                    have ho := ite_tP ho c_67
                    refine lv_aload_n X.1 X.2.1 dX12_readTown_219 rfl (lv_at hl 1 rfl) ?_
                    have ho16 := ho.1
                    have ho := ho.2
                    refine r_ei I (r_runV X I pk_X12_look (c12_look l G _ _ ho16) lm_X12_134 (by decide) (cl_12 rfl) rfl rfl rfl hl.1 rfl (Nat.le_of_ble_eq_true rfl) dX12_readTown_220 ⟨Nat.le_of_ble_eq_true rfl, Nat.le_of_ble_eq_true rfl⟩ ⟨Nat.le_refl 0, Nat.le_refl 0⟩) (fun H locs I => ?_)
                    refine lv_bipush (v := 59) X.1 X.2.1 dX12_readTown_223 (by decide) ?_
                    refine lv_icmp_ne (tgt := 232) X.1 X.2.1 dX12_readTown_225 (by decide) (fun c_69 => ?_) (fun c_69 => ?_)
                    · skip
                      have hE := ite_f hE c_69
                      have ho := ite_fP ho c_69
                      refine lv_iconst (v := 0) X.1 X.2.1 dX12_readTown_232 (by decide) ?_
                      refine lv_istore_n (lv' := [(2, .int _), (3, .int _), (0, .ref _), (1, .int _)]) X.1 X.2.1 dX12_readTown_233 rfl hl (by decide) rfl (fun ls hl => ?_)
                      refine lv_aload_n X.1 X.2.1 dX12_readTown_234 rfl (lv_at hl 2 rfl) ?_
                      refine lv_dup X.1 X.2.1 dX12_readTown_235 rfl ?_
                      refine g12_3 X I (k := 123) (by decide) rfl lf_X12_115 dX12_readTown_236 ?_
                      refine lv_iload_n X.1 X.2.1 dX12_readTown_239 rfl (lv_at hl 0 rfl) ?_
                      refine lv_if_eq (tgt := 247) X.1 X.2.1 dX12_readTown_240 (by decide) (fun c_70 => ?_) (fun c_70 => ?_)
                      · skip
                        refine lv_iconst (v := 0) X.1 X.2.1 dX12_readTown_247 (by decide) ?_
                        refine lv_iadd X.1 X.2.1 dX12_readTown_248 ?_
                        refine p12_3 X I (k := 123) (by decide) rfl lf_X12_115 dX12_readTown_249 (fun H locs I => ?_)
                        refine lv_goto (tgt := 49) X.1 X.2.1 dX12_readTown_252 (by decide) ?_
                        exact ih _ false _ _ _ _ I (lv_sub hl [2, 3, 0] rfl) ho (hE.trans (rfl))
                      · exact absurd c_70 (by decide)
                    · skip
                      have hE := ite_t hE c_69
                      have ho := ite_tP ho c_69
                      refine lv_iconst (v := 1) X.1 X.2.1 dX12_readTown_228 (by decide) ?_
                      refine lv_goto (tgt := 233) X.1 X.2.1 dX12_readTown_229 (by decide) ?_
                      refine lv_istore_n (lv' := [(2, .int _), (3, .int _), (0, .ref _), (1, .int _)]) X.1 X.2.1 dX12_readTown_233 rfl hl (by decide) rfl (fun ls hl => ?_)
                      refine lv_aload_n X.1 X.2.1 dX12_readTown_234 rfl (lv_at hl 2 rfl) ?_
                      refine lv_dup X.1 X.2.1 dX12_readTown_235 rfl ?_
                      refine g12_3 X I (k := 123) (by decide) rfl lf_X12_115 dX12_readTown_236 ?_
                      refine lv_iload_n X.1 X.2.1 dX12_readTown_239 rfl (lv_at hl 0 rfl) ?_
                      refine lv_if_eq (tgt := 247) X.1 X.2.1 dX12_readTown_240 (by decide) (fun c_71 => ?_) (fun c_71 => ?_)
                      · exact absurd c_71 (by decide)
                      · skip
                        refine lv_iconst (v := 1) X.1 X.2.1 dX12_readTown_243 (by decide) ?_
                        refine lv_goto (tgt := 248) X.1 X.2.1 dX12_readTown_244 (by decide) ?_
                        refine lv_iadd X.1 X.2.1 dX12_readTown_248 ?_
                        refine p12_3 X I (k := 123) (by decide) rfl lf_X12_115 dX12_readTown_249 (fun H locs I => ?_)
                        refine lv_goto (tgt := 49) X.1 X.2.1 dX12_readTown_252 (by decide) ?_
                        exact ih _ true _ _ _ _ I (lv_sub hl [2, 3, 0] rfl) ho (hE.trans (rfl))
                · skip
                  have hE := ite_t hE c_66
                  have ho := ite_tP ho c_66
                  refine lv_aload_n X.1 X.2.1 dX12_readTown_162 rfl (lv_at hl 1 rfl) ?_
                  refine g12_21 X I (k := 123) (by decide) rfl lf_X12_247 dX12_readTown_163 ?_
                  refine lv_iconst (v := 5) X.1 X.2.1 dX12_readTown_166 (by decide) ?_
                  refine lv_icmp_ge (tgt := 207) X.1 X.2.1 dX12_readTown_167 (by decide) (fun c_72 => ?_) (fun c_72 => ?_)
                  · skip
                    have hE := ite_t hE c_72
                    have ho := ite_tP ho c_72
                    refine lv_aload_n X.1 X.2.1 dX12_readTown_207 rfl (lv_at hl 1 rfl) ?_
                    refine r_ev I (r_runV X I pk_X12_bad (c12_bad l G _ _) lm_X12_131 (by decide) (cl_12 rfl) rfl rfl rfl hl.1 rfl (Nat.le_of_ble_eq_true rfl) dX12_readTown_208 ⟨Nat.le_of_ble_eq_true rfl, Nat.le_of_ble_eq_true rfl⟩ ⟨Nat.le_refl 0, Nat.le_refl 0⟩) (fun H locs I => ?_)
                    refine lv_aload_n X.1 X.2.1 dX12_readTown_211 rfl (lv_at hl 1 rfl) ?_
                    refine g12_4 X I (k := 123) (by decide) rfl lf_X12_122 dX12_readTown_212 ?_
                    refine lv_iconst (v := (-1)) X.1 X.2.1 dX12_readTown_215 (by decide) ?_
                    refine lv_icmp_ne (tgt := 232) X.1 X.2.1 dX12_readTown_216 (by decide) (fun c_73 => ?_) (fun c_73 => ?_)
                    · skip
                      have hE := ite_f hE c_73
                      have ho := ite_fP ho c_73
                      refine lv_iconst (v := 0) X.1 X.2.1 dX12_readTown_232 (by decide) ?_
                      refine lv_istore_n (lv' := [(2, .int _), (3, .int _), (0, .ref _), (1, .int _)]) X.1 X.2.1 dX12_readTown_233 rfl hl (by decide) rfl (fun ls hl => ?_)
                      refine lv_aload_n X.1 X.2.1 dX12_readTown_234 rfl (lv_at hl 2 rfl) ?_
                      refine lv_dup X.1 X.2.1 dX12_readTown_235 rfl ?_
                      refine g12_3 X I (k := 123) (by decide) rfl lf_X12_115 dX12_readTown_236 ?_
                      refine lv_iload_n X.1 X.2.1 dX12_readTown_239 rfl (lv_at hl 0 rfl) ?_
                      refine lv_if_eq (tgt := 247) X.1 X.2.1 dX12_readTown_240 (by decide) (fun c_74 => ?_) (fun c_74 => ?_)
                      · skip
                        refine lv_iconst (v := 0) X.1 X.2.1 dX12_readTown_247 (by decide) ?_
                        refine lv_iadd X.1 X.2.1 dX12_readTown_248 ?_
                        refine p12_3 X I (k := 123) (by decide) rfl lf_X12_115 dX12_readTown_249 (fun H locs I => ?_)
                        refine lv_goto (tgt := 49) X.1 X.2.1 dX12_readTown_252 (by decide) ?_
                        exact ih _ false _ _ _ _ I (lv_sub hl [2, 3, 0] rfl) ho (hE.trans (rfl))
                      · exact absurd c_74 (by decide)
                    · skip
                      have hE := ite_t hE c_73
                      have ho := ite_tP ho c_73
                      refine lv_aload_n X.1 X.2.1 dX12_readTown_219 rfl (lv_at hl 1 rfl) ?_
                      have ho17 := ho.1
                      have ho := ho.2
                      refine r_ei I (r_runV X I pk_X12_look (c12_look l G _ _ ho17) lm_X12_134 (by decide) (cl_12 rfl) rfl rfl rfl hl.1 rfl (Nat.le_of_ble_eq_true rfl) dX12_readTown_220 ⟨Nat.le_of_ble_eq_true rfl, Nat.le_of_ble_eq_true rfl⟩ ⟨Nat.le_refl 0, Nat.le_refl 0⟩) (fun H locs I => ?_)
                      refine lv_bipush (v := 59) X.1 X.2.1 dX12_readTown_223 (by decide) ?_
                      refine lv_icmp_ne (tgt := 232) X.1 X.2.1 dX12_readTown_225 (by decide) (fun c_75 => ?_) (fun c_75 => ?_)
                      · skip
                        have hE := ite_f hE c_75
                        have ho := ite_fP ho c_75
                        refine lv_iconst (v := 0) X.1 X.2.1 dX12_readTown_232 (by decide) ?_
                        refine lv_istore_n (lv' := [(2, .int _), (3, .int _), (0, .ref _), (1, .int _)]) X.1 X.2.1 dX12_readTown_233 rfl hl (by decide) rfl (fun ls hl => ?_)
                        refine lv_aload_n X.1 X.2.1 dX12_readTown_234 rfl (lv_at hl 2 rfl) ?_
                        refine lv_dup X.1 X.2.1 dX12_readTown_235 rfl ?_
                        refine g12_3 X I (k := 123) (by decide) rfl lf_X12_115 dX12_readTown_236 ?_
                        refine lv_iload_n X.1 X.2.1 dX12_readTown_239 rfl (lv_at hl 0 rfl) ?_
                        refine lv_if_eq (tgt := 247) X.1 X.2.1 dX12_readTown_240 (by decide) (fun c_76 => ?_) (fun c_76 => ?_)
                        · skip
                          refine lv_iconst (v := 0) X.1 X.2.1 dX12_readTown_247 (by decide) ?_
                          refine lv_iadd X.1 X.2.1 dX12_readTown_248 ?_
                          refine p12_3 X I (k := 123) (by decide) rfl lf_X12_115 dX12_readTown_249 (fun H locs I => ?_)
                          refine lv_goto (tgt := 49) X.1 X.2.1 dX12_readTown_252 (by decide) ?_
                          exact ih _ false _ _ _ _ I (lv_sub hl [2, 3, 0] rfl) ho (hE.trans (rfl))
                        · exact absurd c_76 (by decide)
                      · skip
                        have hE := ite_t hE c_75
                        have ho := ite_tP ho c_75
                        refine lv_iconst (v := 1) X.1 X.2.1 dX12_readTown_228 (by decide) ?_
                        refine lv_goto (tgt := 233) X.1 X.2.1 dX12_readTown_229 (by decide) ?_
                        refine lv_istore_n (lv' := [(2, .int _), (3, .int _), (0, .ref _), (1, .int _)]) X.1 X.2.1 dX12_readTown_233 rfl hl (by decide) rfl (fun ls hl => ?_)
                        refine lv_aload_n X.1 X.2.1 dX12_readTown_234 rfl (lv_at hl 2 rfl) ?_
                        refine lv_dup X.1 X.2.1 dX12_readTown_235 rfl ?_
                        refine g12_3 X I (k := 123) (by decide) rfl lf_X12_115 dX12_readTown_236 ?_
                        refine lv_iload_n X.1 X.2.1 dX12_readTown_239 rfl (lv_at hl 0 rfl) ?_
                        refine lv_if_eq (tgt := 247) X.1 X.2.1 dX12_readTown_240 (by decide) (fun c_77 => ?_) (fun c_77 => ?_)
                        · exact absurd c_77 (by decide)
                        · skip
                          refine lv_iconst (v := 1) X.1 X.2.1 dX12_readTown_243 (by decide) ?_
                          refine lv_goto (tgt := 248) X.1 X.2.1 dX12_readTown_244 (by decide) ?_
                          refine lv_iadd X.1 X.2.1 dX12_readTown_248 ?_
                          refine p12_3 X I (k := 123) (by decide) rfl lf_X12_115 dX12_readTown_249 (fun H locs I => ?_)
                          refine lv_goto (tgt := 49) X.1 X.2.1 dX12_readTown_252 (by decide) ?_
                          exact ih _ true _ _ _ _ I (lv_sub hl [2, 3, 0] rfl) ho (hE.trans (rfl))
                  · skip
                    have hE := ite_f hE c_72
                    have ho := ite_fP ho c_72
                    refine lv_aload_n X.1 X.2.1 dX12_readTown_170 rfl (lv_at hl 1 rfl) ?_
                    refine lv_dup X.1 X.2.1 dX12_readTown_171 rfl ?_
                    refine g12_3 X I (k := 123) (by decide) rfl lf_X12_115 dX12_readTown_172 ?_
                    refine lv_iconst (v := 1) X.1 X.2.1 dX12_readTown_175 (by decide) ?_
                    refine lv_iadd X.1 X.2.1 dX12_readTown_176 ?_
                    refine p12_3 X I (k := 123) (by decide) rfl lf_X12_115 dX12_readTown_177 (fun H locs I => ?_)
                    refine lv_aload_n X.1 X.2.1 dX12_readTown_180 rfl (lv_at hl 1 rfl) ?_
                    refine lv_iload_n X.1 X.2.1 dX12_readTown_181 rfl (lv_at hl 0 rfl) ?_
                    refine lv_aload_n X.1 X.2.1 dX12_readTown_182 rfl (lv_at hl 1 rfl) ?_
                    refine g12_19 X I (k := 123) (by decide) rfl lf_X12_46 dX12_readTown_183 ?_
                    refine lv_aload_n X.1 X.2.1 dX12_readTown_186 rfl (lv_at hl 1 rfl) ?_
                    refine g12_21 X I (k := 123) (by decide) rfl lf_X12_247 dX12_readTown_187 ?_
                    refine lv_iconst (v := 1) X.1 X.2.1 dX12_readTown_190 (by decide) ?_
                    have ho18 := ho.1
                    have ho := ho.2
                    refine r_ev I (r_runV X I pk_X12_items (c12_items l G (k := 136) (n := 5) (by decide) rfl (by decide) _ _ _ _ _ ho18) lm_X12_250 (by decide) (cl_12 rfl) rfl rfl rfl hl.1 rfl (Nat.le_of_ble_eq_true rfl) dX12_readTown_191 ⟨Nat.le_of_ble_eq_true rfl, Nat.le_of_ble_eq_true rfl⟩ ⟨Nat.le_refl 0, Nat.le_refl 0⟩) (fun H locs I => ?_)
                    refine lv_aload_n X.1 X.2.1 dX12_readTown_194 rfl (lv_at hl 1 rfl) ?_
                    refine lv_dup X.1 X.2.1 dX12_readTown_195 rfl ?_
                    refine g12_21 X I (k := 123) (by decide) rfl lf_X12_247 dX12_readTown_196 ?_
                    refine lv_iconst (v := 1) X.1 X.2.1 dX12_readTown_199 (by decide) ?_
                    refine lv_iadd X.1 X.2.1 dX12_readTown_200 ?_
                    refine p12_21 X I (k := 123) (by decide) rfl lf_X12_247 dX12_readTown_201 (fun H locs I => ?_)
                    refine lv_goto (tgt := 211) X.1 X.2.1 dX12_readTown_204 (by decide) ?_
                    refine lv_aload_n X.1 X.2.1 dX12_readTown_211 rfl (lv_at hl 1 rfl) ?_
                    refine g12_4 X I (k := 123) (by decide) rfl lf_X12_122 dX12_readTown_212 ?_
                    refine lv_iconst (v := (-1)) X.1 X.2.1 dX12_readTown_215 (by decide) ?_
                    refine lv_icmp_ne (tgt := 232) X.1 X.2.1 dX12_readTown_216 (by decide) (fun c_78 => ?_) (fun c_78 => ?_)
                    · skip
                      have hE := ite_f hE c_78
                      have ho := ite_fP ho c_78
                      refine lv_iconst (v := 0) X.1 X.2.1 dX12_readTown_232 (by decide) ?_
                      refine lv_istore_n (lv' := [(2, .int _), (3, .int _), (0, .ref _), (1, .int _)]) X.1 X.2.1 dX12_readTown_233 rfl hl (by decide) rfl (fun ls hl => ?_)
                      refine lv_aload_n X.1 X.2.1 dX12_readTown_234 rfl (lv_at hl 2 rfl) ?_
                      refine lv_dup X.1 X.2.1 dX12_readTown_235 rfl ?_
                      refine g12_3 X I (k := 123) (by decide) rfl lf_X12_115 dX12_readTown_236 ?_
                      refine lv_iload_n X.1 X.2.1 dX12_readTown_239 rfl (lv_at hl 0 rfl) ?_
                      refine lv_if_eq (tgt := 247) X.1 X.2.1 dX12_readTown_240 (by decide) (fun c_79 => ?_) (fun c_79 => ?_)
                      · skip
                        refine lv_iconst (v := 0) X.1 X.2.1 dX12_readTown_247 (by decide) ?_
                        refine lv_iadd X.1 X.2.1 dX12_readTown_248 ?_
                        refine p12_3 X I (k := 123) (by decide) rfl lf_X12_115 dX12_readTown_249 (fun H locs I => ?_)
                        refine lv_goto (tgt := 49) X.1 X.2.1 dX12_readTown_252 (by decide) ?_
                        exact ih _ false _ _ _ _ I (lv_sub hl [2, 3, 0] rfl) ho (hE.trans (rfl))
                      · exact absurd c_79 (by decide)
                    · skip
                      have hE := ite_t hE c_78
                      have ho := ite_tP ho c_78
                      refine lv_aload_n X.1 X.2.1 dX12_readTown_219 rfl (lv_at hl 1 rfl) ?_
                      have ho19 := ho.1
                      have ho := ho.2
                      refine r_ei I (r_runV X I pk_X12_look (c12_look l G _ _ ho19) lm_X12_134 (by decide) (cl_12 rfl) rfl rfl rfl hl.1 rfl (Nat.le_of_ble_eq_true rfl) dX12_readTown_220 ⟨Nat.le_of_ble_eq_true rfl, Nat.le_of_ble_eq_true rfl⟩ ⟨Nat.le_refl 0, Nat.le_refl 0⟩) (fun H locs I => ?_)
                      refine lv_bipush (v := 59) X.1 X.2.1 dX12_readTown_223 (by decide) ?_
                      refine lv_icmp_ne (tgt := 232) X.1 X.2.1 dX12_readTown_225 (by decide) (fun c_80 => ?_) (fun c_80 => ?_)
                      · skip
                        have hE := ite_f hE c_80
                        have ho := ite_fP ho c_80
                        refine lv_iconst (v := 0) X.1 X.2.1 dX12_readTown_232 (by decide) ?_
                        refine lv_istore_n (lv' := [(2, .int _), (3, .int _), (0, .ref _), (1, .int _)]) X.1 X.2.1 dX12_readTown_233 rfl hl (by decide) rfl (fun ls hl => ?_)
                        refine lv_aload_n X.1 X.2.1 dX12_readTown_234 rfl (lv_at hl 2 rfl) ?_
                        refine lv_dup X.1 X.2.1 dX12_readTown_235 rfl ?_
                        refine g12_3 X I (k := 123) (by decide) rfl lf_X12_115 dX12_readTown_236 ?_
                        refine lv_iload_n X.1 X.2.1 dX12_readTown_239 rfl (lv_at hl 0 rfl) ?_
                        refine lv_if_eq (tgt := 247) X.1 X.2.1 dX12_readTown_240 (by decide) (fun c_81 => ?_) (fun c_81 => ?_)
                        · skip
                          refine lv_iconst (v := 0) X.1 X.2.1 dX12_readTown_247 (by decide) ?_
                          refine lv_iadd X.1 X.2.1 dX12_readTown_248 ?_
                          refine p12_3 X I (k := 123) (by decide) rfl lf_X12_115 dX12_readTown_249 (fun H locs I => ?_)
                          refine lv_goto (tgt := 49) X.1 X.2.1 dX12_readTown_252 (by decide) ?_
                          exact ih _ false _ _ _ _ I (lv_sub hl [2, 3, 0] rfl) ho (hE.trans (rfl))
                        · exact absurd c_81 (by decide)
                      · skip
                        have hE := ite_t hE c_80
                        have ho := ite_tP ho c_80
                        refine lv_iconst (v := 1) X.1 X.2.1 dX12_readTown_228 (by decide) ?_
                        refine lv_goto (tgt := 233) X.1 X.2.1 dX12_readTown_229 (by decide) ?_
                        refine lv_istore_n (lv' := [(2, .int _), (3, .int _), (0, .ref _), (1, .int _)]) X.1 X.2.1 dX12_readTown_233 rfl hl (by decide) rfl (fun ls hl => ?_)
                        refine lv_aload_n X.1 X.2.1 dX12_readTown_234 rfl (lv_at hl 2 rfl) ?_
                        refine lv_dup X.1 X.2.1 dX12_readTown_235 rfl ?_
                        refine g12_3 X I (k := 123) (by decide) rfl lf_X12_115 dX12_readTown_236 ?_
                        refine lv_iload_n X.1 X.2.1 dX12_readTown_239 rfl (lv_at hl 0 rfl) ?_
                        refine lv_if_eq (tgt := 247) X.1 X.2.1 dX12_readTown_240 (by decide) (fun c_82 => ?_) (fun c_82 => ?_)
                        · exact absurd c_82 (by decide)
                        · skip
                          refine lv_iconst (v := 1) X.1 X.2.1 dX12_readTown_243 (by decide) ?_
                          refine lv_goto (tgt := 248) X.1 X.2.1 dX12_readTown_244 (by decide) ?_
                          refine lv_iadd X.1 X.2.1 dX12_readTown_248 ?_
                          refine p12_3 X I (k := 123) (by decide) rfl lf_X12_115 dX12_readTown_249 (fun H locs I => ?_)
                          refine lv_goto (tgt := 49) X.1 X.2.1 dX12_readTown_252 (by decide) ?_
                          exact ih _ true _ _ _ _ I (lv_sub hl [2, 3, 0] rfl) ho (hE.trans (rfl))
              · skip
                have hE := ite_f hE c_65
                have ho := ite_fP ho c_65
                refine lv_aload_n X.1 X.2.1 dX12_readTown_117 rfl (lv_at hl 1 rfl) ?_
                refine lv_dup X.1 X.2.1 dX12_readTown_118 rfl ?_
                refine g12_3 X I (k := 123) (by decide) rfl lf_X12_115 dX12_readTown_119 ?_
                refine lv_iconst (v := 1) X.1 X.2.1 dX12_readTown_122 (by decide) ?_
                refine lv_iadd X.1 X.2.1 dX12_readTown_123 ?_
                refine p12_3 X I (k := 123) (by decide) rfl lf_X12_115 dX12_readTown_124 (fun H locs I => ?_)
                refine lv_aload_n X.1 X.2.1 dX12_readTown_127 rfl (lv_at hl 1 rfl) ?_
                refine lv_iload_n X.1 X.2.1 dX12_readTown_128 rfl (lv_at hl 0 rfl) ?_
                refine lv_aload_n X.1 X.2.1 dX12_readTown_129 rfl (lv_at hl 1 rfl) ?_
                refine g12_18 X I (k := 123) (by decide) rfl lf_X12_43 dX12_readTown_130 ?_
                refine lv_iconst (v := 4) X.1 X.2.1 dX12_readTown_133 (by decide) ?_
                refine lv_aload_n X.1 X.2.1 dX12_readTown_134 rfl (lv_at hl 1 rfl) ?_
                refine g12_20 X I (k := 123) (by decide) rfl lf_X12_244 dX12_readTown_135 ?_
                refine lv_imul X.1 X.2.1 dX12_readTown_138 ?_
                refine lv_iconst (v := 4) X.1 X.2.1 dX12_readTown_139 (by decide) ?_
                have ho20 := ho.1
                have ho := ho.2
                refine r_ev I (r_runV X I pk_X12_items (c12_items l G (k := 135) (n := 28) (by decide) rfl (by decide) _ _ _ _ _ ho20) lm_X12_250 (by decide) (cl_12 rfl) rfl rfl rfl hl.1 rfl (Nat.le_of_ble_eq_true rfl) dX12_readTown_140 ⟨Nat.le_of_ble_eq_true rfl, Nat.le_of_ble_eq_true rfl⟩ ⟨Nat.le_refl 0, Nat.le_refl 0⟩) (fun H locs I => ?_)
                refine lv_aload_n X.1 X.2.1 dX12_readTown_143 rfl (lv_at hl 1 rfl) ?_
                refine lv_dup X.1 X.2.1 dX12_readTown_144 rfl ?_
                refine g12_20 X I (k := 123) (by decide) rfl lf_X12_244 dX12_readTown_145 ?_
                refine lv_iconst (v := 1) X.1 X.2.1 dX12_readTown_148 (by decide) ?_
                refine lv_iadd X.1 X.2.1 dX12_readTown_149 ?_
                refine p12_20 X I (k := 123) (by decide) rfl lf_X12_244 dX12_readTown_150 (fun H locs I => ?_)
                refine lv_goto (tgt := 211) X.1 X.2.1 dX12_readTown_153 (by decide) ?_
                refine lv_aload_n X.1 X.2.1 dX12_readTown_211 rfl (lv_at hl 1 rfl) ?_
                refine g12_4 X I (k := 123) (by decide) rfl lf_X12_122 dX12_readTown_212 ?_
                refine lv_iconst (v := (-1)) X.1 X.2.1 dX12_readTown_215 (by decide) ?_
                refine lv_icmp_ne (tgt := 232) X.1 X.2.1 dX12_readTown_216 (by decide) (fun c_83 => ?_) (fun c_83 => ?_)
                · skip
                  have hE := ite_f hE c_83
                  have ho := ite_fP ho c_83
                  refine lv_iconst (v := 0) X.1 X.2.1 dX12_readTown_232 (by decide) ?_
                  refine lv_istore_n (lv' := [(2, .int _), (3, .int _), (0, .ref _), (1, .int _)]) X.1 X.2.1 dX12_readTown_233 rfl hl (by decide) rfl (fun ls hl => ?_)
                  refine lv_aload_n X.1 X.2.1 dX12_readTown_234 rfl (lv_at hl 2 rfl) ?_
                  refine lv_dup X.1 X.2.1 dX12_readTown_235 rfl ?_
                  refine g12_3 X I (k := 123) (by decide) rfl lf_X12_115 dX12_readTown_236 ?_
                  refine lv_iload_n X.1 X.2.1 dX12_readTown_239 rfl (lv_at hl 0 rfl) ?_
                  refine lv_if_eq (tgt := 247) X.1 X.2.1 dX12_readTown_240 (by decide) (fun c_84 => ?_) (fun c_84 => ?_)
                  · skip
                    refine lv_iconst (v := 0) X.1 X.2.1 dX12_readTown_247 (by decide) ?_
                    refine lv_iadd X.1 X.2.1 dX12_readTown_248 ?_
                    refine p12_3 X I (k := 123) (by decide) rfl lf_X12_115 dX12_readTown_249 (fun H locs I => ?_)
                    refine lv_goto (tgt := 49) X.1 X.2.1 dX12_readTown_252 (by decide) ?_
                    exact ih _ false _ _ _ _ I (lv_sub hl [2, 3, 0] rfl) ho (hE.trans (rfl))
                  · exact absurd c_84 (by decide)
                · skip
                  have hE := ite_t hE c_83
                  have ho := ite_tP ho c_83
                  refine lv_aload_n X.1 X.2.1 dX12_readTown_219 rfl (lv_at hl 1 rfl) ?_
                  have ho21 := ho.1
                  have ho := ho.2
                  refine r_ei I (r_runV X I pk_X12_look (c12_look l G _ _ ho21) lm_X12_134 (by decide) (cl_12 rfl) rfl rfl rfl hl.1 rfl (Nat.le_of_ble_eq_true rfl) dX12_readTown_220 ⟨Nat.le_of_ble_eq_true rfl, Nat.le_of_ble_eq_true rfl⟩ ⟨Nat.le_refl 0, Nat.le_refl 0⟩) (fun H locs I => ?_)
                  refine lv_bipush (v := 59) X.1 X.2.1 dX12_readTown_223 (by decide) ?_
                  refine lv_icmp_ne (tgt := 232) X.1 X.2.1 dX12_readTown_225 (by decide) (fun c_85 => ?_) (fun c_85 => ?_)
                  · skip
                    have hE := ite_f hE c_85
                    have ho := ite_fP ho c_85
                    refine lv_iconst (v := 0) X.1 X.2.1 dX12_readTown_232 (by decide) ?_
                    refine lv_istore_n (lv' := [(2, .int _), (3, .int _), (0, .ref _), (1, .int _)]) X.1 X.2.1 dX12_readTown_233 rfl hl (by decide) rfl (fun ls hl => ?_)
                    refine lv_aload_n X.1 X.2.1 dX12_readTown_234 rfl (lv_at hl 2 rfl) ?_
                    refine lv_dup X.1 X.2.1 dX12_readTown_235 rfl ?_
                    refine g12_3 X I (k := 123) (by decide) rfl lf_X12_115 dX12_readTown_236 ?_
                    refine lv_iload_n X.1 X.2.1 dX12_readTown_239 rfl (lv_at hl 0 rfl) ?_
                    refine lv_if_eq (tgt := 247) X.1 X.2.1 dX12_readTown_240 (by decide) (fun c_86 => ?_) (fun c_86 => ?_)
                    · skip
                      refine lv_iconst (v := 0) X.1 X.2.1 dX12_readTown_247 (by decide) ?_
                      refine lv_iadd X.1 X.2.1 dX12_readTown_248 ?_
                      refine p12_3 X I (k := 123) (by decide) rfl lf_X12_115 dX12_readTown_249 (fun H locs I => ?_)
                      refine lv_goto (tgt := 49) X.1 X.2.1 dX12_readTown_252 (by decide) ?_
                      exact ih _ false _ _ _ _ I (lv_sub hl [2, 3, 0] rfl) ho (hE.trans (rfl))
                    · exact absurd c_86 (by decide)
                  · skip
                    have hE := ite_t hE c_85
                    have ho := ite_tP ho c_85
                    refine lv_iconst (v := 1) X.1 X.2.1 dX12_readTown_228 (by decide) ?_
                    refine lv_goto (tgt := 233) X.1 X.2.1 dX12_readTown_229 (by decide) ?_
                    refine lv_istore_n (lv' := [(2, .int _), (3, .int _), (0, .ref _), (1, .int _)]) X.1 X.2.1 dX12_readTown_233 rfl hl (by decide) rfl (fun ls hl => ?_)
                    refine lv_aload_n X.1 X.2.1 dX12_readTown_234 rfl (lv_at hl 2 rfl) ?_
                    refine lv_dup X.1 X.2.1 dX12_readTown_235 rfl ?_
                    refine g12_3 X I (k := 123) (by decide) rfl lf_X12_115 dX12_readTown_236 ?_
                    refine lv_iload_n X.1 X.2.1 dX12_readTown_239 rfl (lv_at hl 0 rfl) ?_
                    refine lv_if_eq (tgt := 247) X.1 X.2.1 dX12_readTown_240 (by decide) (fun c_87 => ?_) (fun c_87 => ?_)
                    · exact absurd c_87 (by decide)
                    · skip
                      refine lv_iconst (v := 1) X.1 X.2.1 dX12_readTown_243 (by decide) ?_
                      refine lv_goto (tgt := 248) X.1 X.2.1 dX12_readTown_244 (by decide) ?_
                      refine lv_iadd X.1 X.2.1 dX12_readTown_248 ?_
                      refine p12_3 X I (k := 123) (by decide) rfl lf_X12_115 dX12_readTown_249 (fun H locs I => ?_)
                      refine lv_goto (tgt := 49) X.1 X.2.1 dX12_readTown_252 (by decide) ?_
                      exact ih _ true _ _ _ _ I (lv_sub hl [2, 3, 0] rfl) ho (hE.trans (rfl))
          · skip
            have hE := ite_f hE (b2i_n c_46)
            have ho := ite_fP ho (b2i_n c_46)
            refine lv_iconst (v := 1) X.1 X.2.1 dX12_readTown_76 (by decide) ?_
            refine lv_istore_n (lv' := [(1, .int _), (3, .int _), (0, .ref _), (2, .int _)]) X.1 X.2.1 dX12_readTown_77 rfl hl (by decide) rfl (fun ls hl => ?_)
            refine lv_aload_n X.1 X.2.1 dX12_readTown_78 rfl (lv_at hl 2 rfl) ?_
            refine lv_dup X.1 X.2.1 dX12_readTown_79 rfl ?_
            refine g12_3 X I (k := 123) (by decide) rfl lf_X12_115 dX12_readTown_80 ?_
            refine lv_iconst (v := 1) X.1 X.2.1 dX12_readTown_83 (by decide) ?_
            refine lv_iadd X.1 X.2.1 dX12_readTown_84 ?_
            refine p12_3 X I (k := 123) (by decide) rfl lf_X12_115 dX12_readTown_85 (fun H locs I => ?_)
            refine lv_aload_n X.1 X.2.1 dX12_readTown_88 rfl (lv_at hl 2 rfl) ?_
            refine lv_iload_n X.1 X.2.1 dX12_readTown_89 rfl (lv_at hl 1 rfl) ?_
            refine lv_aload_n X.1 X.2.1 dX12_readTown_90 rfl (lv_at hl 2 rfl) ?_
            refine g12_17 X I (k := 123) (by decide) rfl lf_X12_40 dX12_readTown_91 ?_
            refine lv_iconst (v := 0) X.1 X.2.1 dX12_readTown_94 (by decide) ?_
            refine lv_iconst (v := 3) X.1 X.2.1 dX12_readTown_95 (by decide) ?_
            have ho22 := ho.1
            have ho := ho.2
            refine r_ev I (r_runV X I pk_X12_items (c12_items l G (k := 134) (n := 3) (by decide) rfl (by decide) _ _ _ _ _ ho22) lm_X12_250 (by decide) (cl_12 rfl) rfl rfl rfl hl.1 rfl (Nat.le_of_ble_eq_true rfl) dX12_readTown_96 ⟨Nat.le_of_ble_eq_true rfl, Nat.le_of_ble_eq_true rfl⟩ ⟨Nat.le_refl 0, Nat.le_refl 0⟩) (fun H locs I => ?_)
            refine lv_goto (tgt := 211) X.1 X.2.1 dX12_readTown_99 (by decide) ?_
            refine lv_aload_n X.1 X.2.1 dX12_readTown_211 rfl (lv_at hl 2 rfl) ?_
            refine g12_4 X I (k := 123) (by decide) rfl lf_X12_122 dX12_readTown_212 ?_
            refine lv_iconst (v := (-1)) X.1 X.2.1 dX12_readTown_215 (by decide) ?_
            refine lv_icmp_ne (tgt := 232) X.1 X.2.1 dX12_readTown_216 (by decide) (fun c_88 => ?_) (fun c_88 => ?_)
            · skip
              have hE := ite_f hE c_88
              have ho := ite_fP ho c_88
              refine lv_iconst (v := 0) X.1 X.2.1 dX12_readTown_232 (by decide) ?_
              refine lv_istore_n (lv' := [(2, .int _), (1, .int _), (3, .int _), (0, .ref _)]) X.1 X.2.1 dX12_readTown_233 rfl hl (by decide) rfl (fun ls hl => ?_)
              refine lv_aload_n X.1 X.2.1 dX12_readTown_234 rfl (lv_at hl 3 rfl) ?_
              refine lv_dup X.1 X.2.1 dX12_readTown_235 rfl ?_
              refine g12_3 X I (k := 123) (by decide) rfl lf_X12_115 dX12_readTown_236 ?_
              refine lv_iload_n X.1 X.2.1 dX12_readTown_239 rfl (lv_at hl 0 rfl) ?_
              refine lv_if_eq (tgt := 247) X.1 X.2.1 dX12_readTown_240 (by decide) (fun c_89 => ?_) (fun c_89 => ?_)
              · skip
                refine lv_iconst (v := 0) X.1 X.2.1 dX12_readTown_247 (by decide) ?_
                refine lv_iadd X.1 X.2.1 dX12_readTown_248 ?_
                refine p12_3 X I (k := 123) (by decide) rfl lf_X12_115 dX12_readTown_249 (fun H locs I => ?_)
                refine lv_goto (tgt := 49) X.1 X.2.1 dX12_readTown_252 (by decide) ?_
                exact ih true false _ _ _ _ I (lv_sub hl [3, 1, 0] rfl) ho (hE.trans (rfl))
              · exact absurd c_89 (by decide)
            · skip
              have hE := ite_t hE c_88
              have ho := ite_tP ho c_88
              refine lv_aload_n X.1 X.2.1 dX12_readTown_219 rfl (lv_at hl 2 rfl) ?_
              have ho23 := ho.1
              have ho := ho.2
              refine r_ei I (r_runV X I pk_X12_look (c12_look l G _ _ ho23) lm_X12_134 (by decide) (cl_12 rfl) rfl rfl rfl hl.1 rfl (Nat.le_of_ble_eq_true rfl) dX12_readTown_220 ⟨Nat.le_of_ble_eq_true rfl, Nat.le_of_ble_eq_true rfl⟩ ⟨Nat.le_refl 0, Nat.le_refl 0⟩) (fun H locs I => ?_)
              refine lv_bipush (v := 59) X.1 X.2.1 dX12_readTown_223 (by decide) ?_
              refine lv_icmp_ne (tgt := 232) X.1 X.2.1 dX12_readTown_225 (by decide) (fun c_90 => ?_) (fun c_90 => ?_)
              · skip
                have hE := ite_f hE c_90
                have ho := ite_fP ho c_90
                refine lv_iconst (v := 0) X.1 X.2.1 dX12_readTown_232 (by decide) ?_
                refine lv_istore_n (lv' := [(2, .int _), (1, .int _), (3, .int _), (0, .ref _)]) X.1 X.2.1 dX12_readTown_233 rfl hl (by decide) rfl (fun ls hl => ?_)
                refine lv_aload_n X.1 X.2.1 dX12_readTown_234 rfl (lv_at hl 3 rfl) ?_
                refine lv_dup X.1 X.2.1 dX12_readTown_235 rfl ?_
                refine g12_3 X I (k := 123) (by decide) rfl lf_X12_115 dX12_readTown_236 ?_
                refine lv_iload_n X.1 X.2.1 dX12_readTown_239 rfl (lv_at hl 0 rfl) ?_
                refine lv_if_eq (tgt := 247) X.1 X.2.1 dX12_readTown_240 (by decide) (fun c_91 => ?_) (fun c_91 => ?_)
                · skip
                  refine lv_iconst (v := 0) X.1 X.2.1 dX12_readTown_247 (by decide) ?_
                  refine lv_iadd X.1 X.2.1 dX12_readTown_248 ?_
                  refine p12_3 X I (k := 123) (by decide) rfl lf_X12_115 dX12_readTown_249 (fun H locs I => ?_)
                  refine lv_goto (tgt := 49) X.1 X.2.1 dX12_readTown_252 (by decide) ?_
                  exact ih true false _ _ _ _ I (lv_sub hl [3, 1, 0] rfl) ho (hE.trans (rfl))
                · exact absurd c_91 (by decide)
              · skip
                have hE := ite_t hE c_90
                have ho := ite_tP ho c_90
                refine lv_iconst (v := 1) X.1 X.2.1 dX12_readTown_228 (by decide) ?_
                refine lv_goto (tgt := 233) X.1 X.2.1 dX12_readTown_229 (by decide) ?_
                refine lv_istore_n (lv' := [(2, .int _), (1, .int _), (3, .int _), (0, .ref _)]) X.1 X.2.1 dX12_readTown_233 rfl hl (by decide) rfl (fun ls hl => ?_)
                refine lv_aload_n X.1 X.2.1 dX12_readTown_234 rfl (lv_at hl 3 rfl) ?_
                refine lv_dup X.1 X.2.1 dX12_readTown_235 rfl ?_
                refine g12_3 X I (k := 123) (by decide) rfl lf_X12_115 dX12_readTown_236 ?_
                refine lv_iload_n X.1 X.2.1 dX12_readTown_239 rfl (lv_at hl 0 rfl) ?_
                refine lv_if_eq (tgt := 247) X.1 X.2.1 dX12_readTown_240 (by decide) (fun c_92 => ?_) (fun c_92 => ?_)
                · exact absurd c_92 (by decide)
                · skip
                  refine lv_iconst (v := 1) X.1 X.2.1 dX12_readTown_243 (by decide) ?_
                  refine lv_goto (tgt := 248) X.1 X.2.1 dX12_readTown_244 (by decide) ?_
                  refine lv_iadd X.1 X.2.1 dX12_readTown_248 ?_
                  refine p12_3 X I (k := 123) (by decide) rfl lf_X12_115 dX12_readTown_249 (fun H locs I => ?_)
                  refine lv_goto (tgt := 49) X.1 X.2.1 dX12_readTown_252 (by decide) ?_
                  exact ih true true _ _ _ _ I (lv_sub hl [3, 1, 0] rfl) ho (hE.trans (rfl))
set_option maxHeartbeats 4000000 in
set_option maxRecDepth 100000 in
theorem c12_readTown_c24 {l : Launch} {p : Program} {e : Env} {s : State} {m : MethodId} {args : Array Value} {below : List Frame} {meth : Method} {c : Code} {G : GT} (X : CX p s m args meth c cX12_readTown RX12 4 (some .int) G) {E : Int32 × SI} (τ : SL) (x1 : Bool) : ∀ (fu : Nat) (v2 : Int32) (σ : SI) (H : Heap) (locs : List Loc) (ls : Array Slot), IX G s H locs σ τ → lv_has ls 4 [(0, .ref (G.2.1 123)), (1, .int (b2i x1)), (2, .int v2)] → (o12_readTown_c24 x1 fu v2 σ) → (Int32.toInt (3 : Int32) - Int32.toInt v2).toNat < fu → E = (f12_readTown_c24 x1 fu v2 σ) → W p l e (rmN 4) s m args below meth c H locs 0 0 (MQ below ((Qi G (Ei E.1 E.2 τ)) s.heap.size) args s 0 0 (AW G s.heap.size)) (F0 m 24 ls []) := by
  intro fu
  induction fu with
  | zero =>
    intro v2 σ H locs ls I hl  ho hm hE
    exact absurd hm (Nat.not_lt_zero _)
  | succ fu ih =>
    intro v2 σ H locs ls I hl  ho hm hE
    unfold o12_readTown_c24 at ho
    refine lv_iload_n X.1 X.2.1 dX12_readTown_24 rfl (lv_at hl 2 rfl) ?_
    refine lv_iconst (v := 3) X.1 X.2.1 dX12_readTown_25 (by decide) ?_
    refine lv_icmp_ge (tgt := 47) X.1 X.2.1 dX12_readTown_26 (by decide) (fun c_1 => ?_) (fun c_1 => ?_)
    · skip
      have hE := ite_t hE c_1
      have ho := ite_tP ho c_1
      refine lv_iconst (v := 1) X.1 X.2.1 dX12_readTown_47 (by decide) ?_
      refine lv_istore_n (lv' := [(2, .int _), (0, .ref _), (1, .int _)]) X.1 X.2.1 dX12_readTown_48 rfl hl (by decide) rfl (fun ls hl => ?_)
      refine c12_readTown_c49 X _  (fun y1_1 y1_2 σk1 H locs ls I hl ho hE => ?_) _ _ true _ _ _ _ I (lv_sub hl [1, 2, 0] rfl) ho (hE.trans (rfl))
      refine lv_aload_n X.1 X.2.1 dX12_readTown_255 rfl (lv_at hl 0 rfl) ?_
      refine g12_4 X I (k := 123) (by decide) rfl lf_X12_122 dX12_readTown_256 ?_
      refine lv_iconst (v := (-1)) X.1 X.2.1 dX12_readTown_259 (by decide) ?_
      refine lv_icmp_ne (tgt := 282) X.1 X.2.1 dX12_readTown_260 (by decide) (fun c_93 => ?_) (fun c_93 => ?_)
      · skip
        have hE := ite_f hE c_93
        have ho := ite_fP ho c_93
        refine lv_aload_n X.1 X.2.1 dX12_readTown_282 rfl (lv_at hl 0 rfl) ?_
        refine g12_4 X I (k := 123) (by decide) rfl lf_X12_122 dX12_readTown_283 ?_
        have h9 := hE
        exact r_iret X I (e_i (pr_fst h9) (pr_snd h9) rfl) dX12_readTown_286
      · skip
        have hE := ite_t hE c_93
        have ho := ite_tP ho c_93
        refine lv_aload_n X.1 X.2.1 dX12_readTown_263 rfl (lv_at hl 0 rfl) ?_
        have ho24 := ho.1
        have ho := ho.2
        refine r_ei I (r_runV X I pk_X12_look (c12_look l G _ _ ho24) lm_X12_134 (by decide) (cl_12 rfl) rfl rfl rfl hl.1 rfl (Nat.le_of_ble_eq_true rfl) dX12_readTown_264 ⟨Nat.le_of_ble_eq_true rfl, Nat.le_of_ble_eq_true rfl⟩ ⟨Nat.le_refl 0, Nat.le_refl 0⟩) (fun H locs I => ?_)
        refine lv_iconst (v := (-1)) X.1 X.2.1 dX12_readTown_267 (by decide) ?_
        refine lv_icmp_ne (tgt := 278) X.1 X.2.1 dX12_readTown_268 (by decide) (fun c_94 => ?_) (fun c_94 => ?_)
        · skip
          have hE := ite_f hE c_94
          have ho := ite_fP ho c_94
          refine lv_aload_n X.1 X.2.1 dX12_readTown_278 rfl (lv_at hl 0 rfl) ?_
          refine r_ev I (r_runV X I pk_X12_bad (c12_bad l G _ _) lm_X12_131 (by decide) (cl_12 rfl) rfl rfl rfl hl.1 rfl (Nat.le_of_ble_eq_true rfl) dX12_readTown_279 ⟨Nat.le_of_ble_eq_true rfl, Nat.le_of_ble_eq_true rfl⟩ ⟨Nat.le_refl 0, Nat.le_refl 0⟩) (fun H locs I => ?_)
          refine lv_aload_n X.1 X.2.1 dX12_readTown_282 rfl (lv_at hl 0 rfl) ?_
          refine g12_4 X I (k := 123) (by decide) rfl lf_X12_122 dX12_readTown_283 ?_
          have h9 := hE
          exact r_iret X I (e_i (pr_fst h9) (pr_snd h9) rfl) dX12_readTown_286
        · skip
          have hE := ite_t hE c_94
          have ho := ite_tP ho c_94
          refine lv_aload_n X.1 X.2.1 dX12_readTown_271 rfl (lv_at hl 0 rfl) ?_
          have ho25 := ho.1
          have ho := ho.2
          refine r_ei I (r_runV X I pk_X12_isWhole (c12_isWhole l G _ _ ho25) lm_X12_254 (by decide) (cl_12 rfl) rfl rfl rfl hl.1 rfl (Nat.le_of_ble_eq_true rfl) dX12_readTown_272 ⟨Nat.le_of_ble_eq_true rfl, Nat.le_of_ble_eq_true rfl⟩ ⟨Nat.le_refl 0, Nat.le_refl 0⟩) (fun H locs I => ?_)
          refine lv_if_ne (tgt := 282) X.1 X.2.1 dX12_readTown_275 (by decide) (fun c_95 => ?_) (fun c_95 => ?_)
          · skip
            have hE := ite_t hE (b2i_y c_95)
            have ho := ite_tP ho (b2i_y c_95)
            refine lv_aload_n X.1 X.2.1 dX12_readTown_282 rfl (lv_at hl 0 rfl) ?_
            refine g12_4 X I (k := 123) (by decide) rfl lf_X12_122 dX12_readTown_283 ?_
            have h9 := hE
            exact r_iret X I (e_i (pr_fst h9) (pr_snd h9) rfl) dX12_readTown_286
          · skip
            have hE := ite_f hE (b2i_n c_95)
            have ho := ite_fP ho (b2i_n c_95)
            refine lv_aload_n X.1 X.2.1 dX12_readTown_278 rfl (lv_at hl 0 rfl) ?_
            refine r_ev I (r_runV X I pk_X12_bad (c12_bad l G _ _) lm_X12_131 (by decide) (cl_12 rfl) rfl rfl rfl hl.1 rfl (Nat.le_of_ble_eq_true rfl) dX12_readTown_279 ⟨Nat.le_of_ble_eq_true rfl, Nat.le_of_ble_eq_true rfl⟩ ⟨Nat.le_refl 0, Nat.le_refl 0⟩) (fun H locs I => ?_)
            refine lv_aload_n X.1 X.2.1 dX12_readTown_282 rfl (lv_at hl 0 rfl) ?_
            refine g12_4 X I (k := 123) (by decide) rfl lf_X12_122 dX12_readTown_283 ?_
            have h9 := hE
            exact r_iret X I (e_i (pr_fst h9) (pr_snd h9) rfl) dX12_readTown_286
    · skip
      have hE := ite_f hE c_1
      have ho := ite_fP ho c_1
      refine lv_aload_n X.1 X.2.1 dX12_readTown_29 rfl (lv_at hl 0 rfl) ?_
      refine g12_17 X I (k := 123) (by decide) rfl lf_X12_40 dX12_readTown_30 ?_
      refine lv_iload_n X.1 X.2.1 dX12_readTown_33 rfl (lv_at hl 2 rfl) ?_
      refine lv_bipush (v := 115) X.1 X.2.1 dX12_readTown_34 (by decide) ?_
      refine lv_iload_n X.1 X.2.1 dX12_readTown_36 rfl (lv_at hl 2 rfl) ?_
      refine r_ei I (r_runS X I pk_X12_usual (c12_usual l G _ _ _ _) lm_X12_224 rfl hl.1 rfl (Nat.le_of_ble_eq_true rfl) dX12_readTown_37 ⟨Nat.le_of_ble_eq_true rfl, Nat.le_of_ble_eq_true rfl⟩ ⟨Nat.le_refl 0, Nat.le_refl 0⟩) (fun H locs I => ?_)
      have ho26 := ho.1
      have ho := ho.2
      refine r_ast X I (k := 134) (n := 3) (by decide) rfl ho26 dX12_readTown_40 (fun H locs I => ?_)
      refine lv_iinc (v := _ + 1) (lv' := [(2, .int _), (0, .ref _), (1, .int _)]) X.1 X.2.1 dX12_readTown_41 hl (k := 2) rfl rfl (by decide) rfl (fun ls hl => ?_)
      refine lv_goto (tgt := 24) X.1 X.2.1 dX12_readTown_44 (by decide) ?_
      exact ih _ _ _ _ _ I (lv_sub hl [1, 2, 0] rfl) ho (Nat.lt_of_lt_of_le (up_dec c_1) (Nat.le_of_lt_succ hm)) (hE.trans (rfl))
set_option maxHeartbeats 4000000 in
set_option maxRecDepth 100000 in
theorem c12_readTown (l : Launch) (G : GT) (σ : SI) (τ : SL) (ho : o12_readTown σ) : Mc l yX12_readTown cX12_readTown 4 (some .int) 4 G [.ref (G.2.1 123)] σ τ (Qi G (Ei (f12_readTown σ).1 (f12_readTown σ).2 τ)) := by
  refine m_start (by decide +kernel) (Nat.le_of_ble_eq_true rfl) rfl (fun p e s m args below meth c ls X I hl => ?_)
  have hl : lv_has ls 4 [(0, .ref (G.2.1 123))] := hl
  obtain ⟨E, hE⟩ : ∃ E, E = (f12_readTown σ) := ⟨_, rfl⟩
  rw [← hE]
  unfold o12_readTown at ho
  refine lv_aload_n X.1 X.2.1 dX12_readTown_0 rfl (lv_at hl 0 rfl) ?_
  refine lv_iconst (v := 0) X.1 X.2.1 dX12_readTown_1 (by decide) ?_
  refine p12_3 X I (k := 123) (by decide) rfl lf_X12_115 dX12_readTown_2 (fun H locs I => ?_)
  refine lv_aload_n X.1 X.2.1 dX12_readTown_5 rfl (lv_at hl 0 rfl) ?_
  refine lv_iconst (v := (-1)) X.1 X.2.1 dX12_readTown_6 (by decide) ?_
  refine p12_4 X I (k := 123) (by decide) rfl lf_X12_122 dX12_readTown_7 (fun H locs I => ?_)
  refine lv_aload_n X.1 X.2.1 dX12_readTown_10 rfl (lv_at hl 0 rfl) ?_
  refine lv_iconst (v := 0) X.1 X.2.1 dX12_readTown_11 (by decide) ?_
  refine p12_20 X I (k := 123) (by decide) rfl lf_X12_244 dX12_readTown_12 (fun H locs I => ?_)
  refine lv_aload_n X.1 X.2.1 dX12_readTown_15 rfl (lv_at hl 0 rfl) ?_
  refine lv_iconst (v := 0) X.1 X.2.1 dX12_readTown_16 (by decide) ?_
  refine p12_21 X I (k := 123) (by decide) rfl lf_X12_247 dX12_readTown_17 (fun H locs I => ?_)
  refine lv_iconst (v := 0) X.1 X.2.1 dX12_readTown_20 (by decide) ?_
  refine lv_istore_n (lv' := [(1, .int _), (0, .ref _)]) X.1 X.2.1 dX12_readTown_21 rfl hl (by decide) rfl (fun ls hl => ?_)
  refine lv_iconst (v := 0) X.1 X.2.1 dX12_readTown_22 (by decide) ?_
  refine lv_istore_n (lv' := [(2, .int _), (1, .int _), (0, .ref _)]) X.1 X.2.1 dX12_readTown_23 rfl hl (by decide) rfl (fun ls hl => ?_)
  exact c12_readTown_c24 X _ false _ _ _ _ _ _ I (lv_sub hl [2, 1, 0] rfl) ho (fu1_lt _) (hE.trans (rfl))
