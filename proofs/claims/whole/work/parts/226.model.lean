noncomputable def f12_roster_c40 (σ : SI) (x1 : Int32) (x2 : Int32) (x3 : Int32) (K : Int32 → Int32 → Int32) : Nat → Int32 → Int32 → Int32
  | 0, v4, v5 => (K v4 v5)
  | fu + 1, v4, v5 => if (σ 123 26) ≤ v5 then (K v4 v5) else (if (f12_has x3 v5) = true then (f12_roster_c40 σ x1 x2 x3 K fu (v4 + (σ 139 (Int32.toNatClampNeg v5))) (v5 + 1)) else (f12_roster_c40 σ x1 x2 x3 K fu (v4 + (0 : Int32)) (v5 + 1)))
noncomputable def o12_roster_c40 (σ : SI) (x1 : Int32) (x2 : Int32) (x3 : Int32) (oK : Int32 → Int32 → Prop) : Nat → Int32 → Int32 → Prop
  | 0, _, _ => True
  | fu + 1, v4, v5 => if (σ 123 26) ≤ v5 then (oK v4 v5) else (if (f12_has x3 v5) = true then ((vp_in v5 5) ∧ (o12_roster_c40 σ x1 x2 x3 oK fu (v4 + (σ 139 (Int32.toNatClampNeg v5))) (v5 + 1))) else (o12_roster_c40 σ x1 x2 x3 oK fu (v4 + (0 : Int32)) (v5 + 1)))
noncomputable def f12_roster_c24 (σ : SI) (x1 : Int32) : Nat → Int32 → Int32 → Int32
  | 0, _, _ => 0
  | fu + 1, v2, v3 => if ((1 : Int32) <<< ((σ 123 26) &&& 31)) ≤ v3 then v2 else (f12_roster_c40 σ x1 v2 v3 (fun (y1_4 : Int32) (y1_5 : Int32) => if y1_4 < x1 then (f12_roster_c24 σ x1 fu v2 (v3 + 1)) else (if v2 = (-1 : Int32) then (f12_roster_c24 σ x1 fu v3 (v3 + 1)) else (if (fbitCount v2) ≤ (fbitCount v3) then (f12_roster_c24 σ x1 fu v2 (v3 + 1)) else (f12_roster_c24 σ x1 fu v3 (v3 + 1))))) (fu1 ((Int32.toInt (σ 123 26) - Int32.toInt (0 : Int32)).toNat)) (0 : Int32) (0 : Int32))
noncomputable def o12_roster_c24 (σ : SI) (x1 : Int32) : Nat → Int32 → Int32 → Prop
  | 0, _, _ => True
  | fu + 1, v2, v3 => if ((1 : Int32) <<< ((σ 123 26) &&& 31)) ≤ v3 then True else (o12_roster_c40 σ x1 v2 v3 (fun (y1_4 : Int32) (y1_5 : Int32) => if y1_4 < x1 then (o12_roster_c24 σ x1 fu v2 (v3 + 1)) else (if v2 = (-1 : Int32) then (o12_roster_c24 σ x1 fu v3 (v3 + 1)) else (if (fbitCount v2) ≤ (fbitCount v3) then (o12_roster_c24 σ x1 fu v2 (v3 + 1)) else (o12_roster_c24 σ x1 fu v3 (v3 + 1))))) (fu1 ((Int32.toInt (σ 123 26) - Int32.toInt (0 : Int32)).toNat)) (0 : Int32) (0 : Int32))
noncomputable def f12_roster (σ : SI) (x1 : Int32) : Int32 := if (σ 123 25) = (0 : Int32) then (-1 : Int32) else (if (f12_in x1 (1 : Int32) (200 : Int32)) = true then (f12_roster_c24 σ x1 (fu1 ((Int32.toInt ((1 : Int32) <<< ((σ 123 26) &&& 31)) - Int32.toInt (0 : Int32)).toNat)) (-1 : Int32) (0 : Int32)) else (-1 : Int32))
noncomputable def o12_roster (σ : SI) (x1 : Int32) : Prop := if (σ 123 25) = (0 : Int32) then True else (if (f12_in x1 (1 : Int32) (200 : Int32)) = true then (o12_roster_c24 σ x1 (fu1 ((Int32.toInt ((1 : Int32) <<< ((σ 123 26) &&& 31)) - Int32.toInt (0 : Int32)).toNat)) (-1 : Int32) (0 : Int32)) else True)
set_option maxHeartbeats 4000000 in
set_option maxRecDepth 100000 in
theorem c12_roster_c40 {l : Launch} {p : Program} {e : Env} {s : State} {m : MethodId} {args : Array Value} {below : List Frame} {meth : Method} {c : Code} {G : GT} (X : CX p s m args meth c cX12_roster RX12 6 (some .int) G) {E : Int32} (σ : SI) (τ : SL) (x1 : Int32) (x2 : Int32) (x3 : Int32) {oK : Int32 → Int32 → Prop} {K : Int32 → Int32 → Int32} (hK : ∀ (v4 : Int32) (v5 : Int32) (H : Heap) (locs : List Loc) (ls : Array Slot), IX G s H locs σ τ → lv_has ls 6 [(0, .ref (G.2.1 123)), (1, .int x1), (2, .int x2), (3, .int x3), (4, .int v4), (5, .int v5)] → oK v4 v5 → E = K v4 v5 → W p l e (rmN 1) s m args below meth c H locs 0 0 (MQ below ((Qi G (Ei E σ τ)) s.heap.size) args s 0 0 (AW G s.heap.size)) (F0 m 80 ls [])) : ∀ (fu : Nat) (v4 : Int32) (v5 : Int32) (H : Heap) (locs : List Loc) (ls : Array Slot), IX G s H locs σ τ → lv_has ls 6 [(0, .ref (G.2.1 123)), (1, .int x1), (2, .int x2), (3, .int x3), (4, .int v4), (5, .int v5)] → (o12_roster_c40 σ x1 x2 x3 oK fu v4 v5) → (Int32.toInt (σ 123 26) - Int32.toInt v5).toNat < fu → E = (f12_roster_c40 σ x1 x2 x3 K fu v4 v5) → W p l e (rmN 1) s m args below meth c H locs 0 0 (MQ below ((Qi G (Ei E σ τ)) s.heap.size) args s 0 0 (AW G s.heap.size)) (F0 m 40 ls []) := by
  intro fu
  induction fu with
  | zero =>
    intro v4 v5 H locs ls I hl  ho hm hE
    exact absurd hm (Nat.not_lt_zero _)
  | succ fu ih =>
    intro v4 v5 H locs ls I hl  ho hm hE
    unfold o12_roster_c40 at ho
    refine lv_iload X.1 X.2.1 dX12_roster_40 (lv_at hl 5 rfl) ?_
    refine lv_aload_n X.1 X.2.1 dX12_roster_42 rfl (lv_at hl 0 rfl) ?_
    refine g12_26 X I (k := 123) (by decide) rfl lf_X12_267 dX12_roster_43 ?_
    refine lv_icmp_ge (tgt := 80) X.1 X.2.1 dX12_roster_46 (by decide) (fun c_4 => ?_) (fun c_4 => ?_)
    · skip
      have hE := ite_t hE c_4
      have ho := ite_tP ho c_4
      exact hK _ _ _ _ _ I (lv_sub hl [0, 1, 2, 3, 4, 5] rfl) ho (hE.trans (rfl))
    · skip
      have hE := ite_f hE c_4
      have ho := ite_fP ho c_4
      refine lv_iload X.1 X.2.1 dX12_roster_49 (lv_at hl 4 rfl) ?_
      refine lv_iload_n X.1 X.2.1 dX12_roster_51 rfl (lv_at hl 3 rfl) ?_
      refine lv_iload X.1 X.2.1 dX12_roster_52 (lv_at hl 5 rfl) ?_
      refine r_ei I (r_runS X I pk_X12_has (c12_has l G _ _ _ _) lm_X12_231 rfl hl.1 rfl (Nat.le_of_ble_eq_true rfl) dX12_roster_54 ⟨Nat.le_of_ble_eq_true rfl, Nat.le_of_ble_eq_true rfl⟩ ⟨Nat.le_refl 0, Nat.le_refl 0⟩) (fun H locs I => ?_)
      refine lv_if_eq (tgt := 70) X.1 X.2.1 dX12_roster_57 (by decide) (fun c_5 => ?_) (fun c_5 => ?_)
      · skip
        have hE := ite_f hE (b2i_n c_5)
        have ho := ite_fP ho (b2i_n c_5)
        refine lv_iconst (v := 0) X.1 X.2.1 dX12_roster_70 (by decide) ?_
        refine lv_iadd X.1 X.2.1 dX12_roster_71 ?_
        refine lv_istore (lv' := [(4, .int _), (0, .ref _), (1, .int _), (2, .int _), (3, .int _), (5, .int _)]) X.1 X.2.1 dX12_roster_72 hl (by decide) rfl (fun ls hl => ?_)
        refine lv_iinc (v := _ + 1) (lv' := [(5, .int _), (4, .int _), (0, .ref _), (1, .int _), (2, .int _), (3, .int _)]) X.1 X.2.1 dX12_roster_74 hl (k := 5) rfl rfl (by decide) rfl (fun ls hl => ?_)
        refine lv_goto (tgt := 40) X.1 X.2.1 dX12_roster_77 (by decide) ?_
        exact ih _ _ _ _ _ I (lv_sub hl [2, 3, 4, 5, 1, 0] rfl) ho (Nat.lt_of_lt_of_le (up_dec c_4) (Nat.le_of_lt_succ hm)) (hE.trans (rfl))
      · skip
        have hE := ite_t hE (b2i_y c_5)
        have ho := ite_tP ho (b2i_y c_5)
        refine lv_aload_n X.1 X.2.1 dX12_roster_60 rfl (lv_at hl 0 rfl) ?_
        refine g12_24 X I (k := 123) (by decide) rfl lf_X12_55 dX12_roster_61 ?_
        refine lv_iload X.1 X.2.1 dX12_roster_64 (lv_at hl 5 rfl) ?_
        have ho1 := ho.1
        have ho := ho.2
        refine r_ald X I (k := 139) (n := 5) (by decide) rfl ho1 dX12_roster_66 ?_
        refine lv_goto (tgt := 71) X.1 X.2.1 dX12_roster_67 (by decide) ?_
        refine lv_iadd X.1 X.2.1 dX12_roster_71 ?_
        refine lv_istore (lv' := [(4, .int _), (0, .ref _), (1, .int _), (2, .int _), (3, .int _), (5, .int _)]) X.1 X.2.1 dX12_roster_72 hl (by decide) rfl (fun ls hl => ?_)
        refine lv_iinc (v := _ + 1) (lv' := [(5, .int _), (4, .int _), (0, .ref _), (1, .int _), (2, .int _), (3, .int _)]) X.1 X.2.1 dX12_roster_74 hl (k := 5) rfl rfl (by decide) rfl (fun ls hl => ?_)
        refine lv_goto (tgt := 40) X.1 X.2.1 dX12_roster_77 (by decide) ?_
        exact ih _ _ _ _ _ I (lv_sub hl [2, 3, 4, 5, 1, 0] rfl) ho (Nat.lt_of_lt_of_le (up_dec c_4) (Nat.le_of_lt_succ hm)) (hE.trans (rfl))
set_option maxHeartbeats 4000000 in
set_option maxRecDepth 100000 in
theorem c12_roster_c24 {l : Launch} {p : Program} {e : Env} {s : State} {m : MethodId} {args : Array Value} {below : List Frame} {meth : Method} {c : Code} {G : GT} (X : CX p s m args meth c cX12_roster RX12 6 (some .int) G) {E : Int32} (σ : SI) (τ : SL) (x1 : Int32) : ∀ (fu : Nat) (v2 : Int32) (v3 : Int32) (H : Heap) (locs : List Loc) (ls : Array Slot), IX G s H locs σ τ → lv_has ls 6 [(0, .ref (G.2.1 123)), (1, .int x1), (2, .int v2), (3, .int v3)] → (o12_roster_c24 σ x1 fu v2 v3) → (Int32.toInt ((1 : Int32) <<< ((σ 123 26) &&& 31)) - Int32.toInt v3).toNat < fu → E = (f12_roster_c24 σ x1 fu v2 v3) → W p l e (rmN 1) s m args below meth c H locs 0 0 (MQ below ((Qi G (Ei E σ τ)) s.heap.size) args s 0 0 (AW G s.heap.size)) (F0 m 24 ls []) := by
  intro fu
  induction fu with
  | zero =>
    intro v2 v3 H locs ls I hl  ho hm hE
    exact absurd hm (Nat.not_lt_zero _)
  | succ fu ih =>
    intro v2 v3 H locs ls I hl  ho hm hE
    unfold o12_roster_c24 at ho
    refine lv_iload_n X.1 X.2.1 dX12_roster_24 rfl (lv_at hl 3 rfl) ?_
    refine lv_iconst (v := 1) X.1 X.2.1 dX12_roster_25 (by decide) ?_
    refine lv_aload_n X.1 X.2.1 dX12_roster_26 rfl (lv_at hl 0 rfl) ?_
    refine g12_26 X I (k := 123) (by decide) rfl lf_X12_267 dX12_roster_27 ?_
    refine lv_ishl X.1 X.2.1 dX12_roster_30 ?_
    refine lv_icmp_ge (tgt := 114) X.1 X.2.1 dX12_roster_31 (by decide) (fun c_3 => ?_) (fun c_3 => ?_)
    · skip
      have hE := ite_t hE c_3
      have ho := ite_tP ho c_3
      refine lv_iload_n X.1 X.2.1 dX12_roster_114 rfl (lv_at hl 2 rfl) ?_
      have h9 := hE
      exact r_iret X I (e_i h9.symm rfl rfl) dX12_roster_115
    · skip
      have hE := ite_f hE c_3
      have ho := ite_fP ho c_3
      refine lv_iconst (v := 0) X.1 X.2.1 dX12_roster_34 (by decide) ?_
      refine lv_istore (lv' := [(4, .int _), (0, .ref _), (1, .int _), (2, .int _), (3, .int _)]) X.1 X.2.1 dX12_roster_35 hl (by decide) rfl (fun ls hl => ?_)
      refine lv_iconst (v := 0) X.1 X.2.1 dX12_roster_37 (by decide) ?_
      refine lv_istore (lv' := [(5, .int _), (4, .int _), (0, .ref _), (1, .int _), (2, .int _), (3, .int _)]) X.1 X.2.1 dX12_roster_38 hl (by decide) rfl (fun ls hl => ?_)
      refine c12_roster_c40 X _ _ _ _ _ (fun y1_4 y1_5 H locs ls I hl ho hE => ?_) _ _ _ _ _ _ I (lv_sub hl [2, 3, 4, 5, 1, 0] rfl) ho (fu1_lt _) (hE.trans (rfl))
      refine lv_iload X.1 X.2.1 dX12_roster_80 (lv_at hl 4 rfl) ?_
      refine lv_iload_n X.1 X.2.1 dX12_roster_82 rfl (lv_at hl 1 rfl) ?_
      refine lv_icmp_lt (tgt := 106) X.1 X.2.1 dX12_roster_83 (by decide) (fun c_6 => ?_) (fun c_6 => ?_)
      · skip
        have hE := ite_t hE c_6
        have ho := ite_tP ho c_6
        refine lv_iload_n X.1 X.2.1 dX12_roster_106 rfl (lv_at hl 2 rfl) ?_
        refine lv_istore_n (lv' := [(2, .int _), (0, .ref _), (1, .int _), (3, .int _), (4, .int _), (5, .int _)]) X.1 X.2.1 dX12_roster_107 rfl hl (by decide) rfl (fun ls hl => ?_)
        refine lv_iinc (v := _ + 1) (lv' := [(3, .int _), (2, .int _), (0, .ref _), (1, .int _), (4, .int _), (5, .int _)]) X.1 X.2.1 dX12_roster_108 hl (k := 3) rfl rfl (by decide) rfl (fun ls hl => ?_)
        refine lv_goto (tgt := 24) X.1 X.2.1 dX12_roster_111 (by decide) ?_
        exact ih _ _ _ _ _ I (lv_sub hl [2, 3, 1, 0] rfl) ho (Nat.lt_of_lt_of_le (up_dec c_3) (Nat.le_of_lt_succ hm)) (hE.trans (rfl))
      · skip
        have hE := ite_f hE c_6
        have ho := ite_fP ho c_6
        refine lv_iload_n X.1 X.2.1 dX12_roster_86 rfl (lv_at hl 2 rfl) ?_
        refine lv_iconst (v := (-1)) X.1 X.2.1 dX12_roster_87 (by decide) ?_
        refine lv_icmp_eq (tgt := 102) X.1 X.2.1 dX12_roster_88 (by decide) (fun c_7 => ?_) (fun c_7 => ?_)
        · skip
          have hE := ite_t hE c_7
          have ho := ite_tP ho c_7
          refine lv_iload_n X.1 X.2.1 dX12_roster_102 rfl (lv_at hl 3 rfl) ?_
          refine lv_goto (tgt := 107) X.1 X.2.1 dX12_roster_103 (by decide) ?_
          refine lv_istore_n (lv' := [(2, .int _), (0, .ref _), (1, .int _), (3, .int _), (4, .int _), (5, .int _)]) X.1 X.2.1 dX12_roster_107 rfl hl (by decide) rfl (fun ls hl => ?_)
          refine lv_iinc (v := _ + 1) (lv' := [(3, .int _), (2, .int _), (0, .ref _), (1, .int _), (4, .int _), (5, .int _)]) X.1 X.2.1 dX12_roster_108 hl (k := 3) rfl rfl (by decide) rfl (fun ls hl => ?_)
          refine lv_goto (tgt := 24) X.1 X.2.1 dX12_roster_111 (by decide) ?_
          exact ih _ _ _ _ _ I (lv_sub hl [2, 3, 1, 0] rfl) ho (Nat.lt_of_lt_of_le (up_dec c_3) (Nat.le_of_lt_succ hm)) (hE.trans (rfl))
        · skip
          have hE := ite_f hE c_7
          have ho := ite_fP ho c_7
          refine lv_iload_n X.1 X.2.1 dX12_roster_91 rfl (lv_at hl 3 rfl) ?_
          refine r_ei I (r_runS X I pk_J6_bitCount_0f7a4 (cbitCount l G _ _ _) lm_X12_308 rfl hl.1 rfl (Nat.le_of_ble_eq_true rfl) dX12_roster_92 ⟨Nat.le_of_ble_eq_true rfl, Nat.le_of_ble_eq_true rfl⟩ ⟨Nat.le_refl 0, Nat.le_refl 0⟩) (fun H locs I => ?_)
          refine lv_iload_n X.1 X.2.1 dX12_roster_95 rfl (lv_at hl 2 rfl) ?_
          refine r_ei I (r_runS X I pk_J6_bitCount_0f7a4 (cbitCount l G _ _ _) lm_X12_308 rfl hl.1 rfl (Nat.le_of_ble_eq_true rfl) dX12_roster_96 ⟨Nat.le_of_ble_eq_true rfl, Nat.le_of_ble_eq_true rfl⟩ ⟨Nat.le_refl 0, Nat.le_refl 0⟩) (fun H locs I => ?_)
          refine lv_icmp_ge (tgt := 106) X.1 X.2.1 dX12_roster_99 (by decide) (fun c_8 => ?_) (fun c_8 => ?_)
          · skip
            have hE := ite_t hE c_8
            have ho := ite_tP ho c_8
            refine lv_iload_n X.1 X.2.1 dX12_roster_106 rfl (lv_at hl 2 rfl) ?_
            refine lv_istore_n (lv' := [(2, .int _), (0, .ref _), (1, .int _), (3, .int _), (4, .int _), (5, .int _)]) X.1 X.2.1 dX12_roster_107 rfl hl (by decide) rfl (fun ls hl => ?_)
            refine lv_iinc (v := _ + 1) (lv' := [(3, .int _), (2, .int _), (0, .ref _), (1, .int _), (4, .int _), (5, .int _)]) X.1 X.2.1 dX12_roster_108 hl (k := 3) rfl rfl (by decide) rfl (fun ls hl => ?_)
            refine lv_goto (tgt := 24) X.1 X.2.1 dX12_roster_111 (by decide) ?_
            exact ih _ _ _ _ _ I (lv_sub hl [2, 3, 1, 0] rfl) ho (Nat.lt_of_lt_of_le (up_dec c_3) (Nat.le_of_lt_succ hm)) (hE.trans (rfl))
          · skip
            have hE := ite_f hE c_8
            have ho := ite_fP ho c_8
            refine lv_iload_n X.1 X.2.1 dX12_roster_102 rfl (lv_at hl 3 rfl) ?_
            refine lv_goto (tgt := 107) X.1 X.2.1 dX12_roster_103 (by decide) ?_
            refine lv_istore_n (lv' := [(2, .int _), (0, .ref _), (1, .int _), (3, .int _), (4, .int _), (5, .int _)]) X.1 X.2.1 dX12_roster_107 rfl hl (by decide) rfl (fun ls hl => ?_)
            refine lv_iinc (v := _ + 1) (lv' := [(3, .int _), (2, .int _), (0, .ref _), (1, .int _), (4, .int _), (5, .int _)]) X.1 X.2.1 dX12_roster_108 hl (k := 3) rfl rfl (by decide) rfl (fun ls hl => ?_)
            refine lv_goto (tgt := 24) X.1 X.2.1 dX12_roster_111 (by decide) ?_
            exact ih _ _ _ _ _ I (lv_sub hl [2, 3, 1, 0] rfl) ho (Nat.lt_of_lt_of_le (up_dec c_3) (Nat.le_of_lt_succ hm)) (hE.trans (rfl))
set_option maxHeartbeats 4000000 in
set_option maxRecDepth 100000 in
theorem c12_roster (l : Launch) (G : GT) (σ : SI) (τ : SL) (x1 : Int32) (ho : o12_roster σ x1) : Mc l yX12_roster cX12_roster 6 (some .int) 1 G [.ref (G.2.1 123), .int x1] σ τ (Qi G (Ei (f12_roster σ x1) σ τ)) := by
  refine m_start (by decide +kernel) (Nat.le_of_ble_eq_true rfl) rfl (fun p e s m args below meth c ls X I hl => ?_)
  have hl : lv_has ls 6 [(0, .ref (G.2.1 123)), (1, .int x1)] := hl
  obtain ⟨E, hE⟩ : ∃ E, E = (f12_roster σ x1) := ⟨_, rfl⟩
  rw [← hE]
  unfold o12_roster at ho
  refine lv_aload_n X.1 X.2.1 dX12_roster_0 rfl (lv_at hl 0 rfl) ?_
  refine g12_25 X I (k := 123) (by decide) rfl lf_X12_264 dX12_roster_1 ?_
  refine lv_if_eq (tgt := 18) X.1 X.2.1 dX12_roster_4 (by decide) (fun c_1 => ?_) (fun c_1 => ?_)
  · skip
    have hE := ite_t hE c_1
    have ho := ite_tP ho c_1
    refine lv_iconst (v := (-1)) X.1 X.2.1 dX12_roster_18 (by decide) ?_
    have h9 := hE
    exact r_iret X I (e_i h9.symm rfl rfl) dX12_roster_19
  · skip
    have hE := ite_f hE c_1
    have ho := ite_fP ho c_1
    refine lv_iload_n X.1 X.2.1 dX12_roster_7 rfl (lv_at hl 1 rfl) ?_
    refine lv_iconst (v := 1) X.1 X.2.1 dX12_roster_8 (by decide) ?_
    refine lv_sipush (v := 200) X.1 X.2.1 dX12_roster_9 (by decide) ?_
    refine r_ei I (r_runS X I pk_X12_in (c12_in l G _ _ _ _ _) lm_X12_220 rfl hl.1 rfl (Nat.le_of_ble_eq_true rfl) dX12_roster_12 ⟨Nat.le_of_ble_eq_true rfl, Nat.le_of_ble_eq_true rfl⟩ ⟨Nat.le_refl 0, Nat.le_refl 0⟩) (fun H locs I => ?_)
    refine lv_if_ne (tgt := 20) X.1 X.2.1 dX12_roster_15 (by decide) (fun c_2 => ?_) (fun c_2 => ?_)
    · skip
      have hE := ite_t hE (b2i_y c_2)
      have ho := ite_tP ho (b2i_y c_2)
      refine lv_iconst (v := (-1)) X.1 X.2.1 dX12_roster_20 (by decide) ?_
      refine lv_istore_n (lv' := [(2, .int _), (0, .ref _), (1, .int _)]) X.1 X.2.1 dX12_roster_21 rfl hl (by decide) rfl (fun ls hl => ?_)
      refine lv_iconst (v := 0) X.1 X.2.1 dX12_roster_22 (by decide) ?_
      refine lv_istore_n (lv' := [(3, .int _), (2, .int _), (0, .ref _), (1, .int _)]) X.1 X.2.1 dX12_roster_23 rfl hl (by decide) rfl (fun ls hl => ?_)
      exact c12_roster_c24 X _ _ _ _ _ _ _ _ _ I (lv_sub hl [2, 3, 1, 0] rfl) ho (fu1_lt _) (hE.trans (rfl))
    · skip
      have hE := ite_f hE (b2i_n c_2)
      have ho := ite_fP ho (b2i_n c_2)
      refine lv_iconst (v := (-1)) X.1 X.2.1 dX12_roster_18 (by decide) ?_
      have h9 := hE
      exact r_iret X I (e_i h9.symm rfl rfl) dX12_roster_19
noncomputable def f12_stood (σ : SI) (x1 : Int32) (x2 : Int32) (x3 : Int32) : Int32 × SI := if (f12_isHouse σ x1) = true then (if (f12_in x2 (0 : Int32) (99 : Int32)) = true then (if (f12_in x3 (0 : Int32) (60 : Int32)) = true then (if (σ 123 43) = (10 : Int32) then ((-1 : Int32), σ) else (let s0 := sp σ 145 (Int32.toNatClampNeg (σ 123 43)) x1; let s1 := sp s0 146 (Int32.toNatClampNeg (σ 123 43)) x2; let s2 := sp s1 147 (Int32.toNatClampNeg (σ 123 43)) x3; let s3 := sp s2 123 43 ((σ 123 43) + (1 : Int32)); (((σ 123 43) + (1 : Int32)), s3))) else ((-1 : Int32), σ)) else ((-1 : Int32), σ)) else ((-1 : Int32), σ)
noncomputable def o12_stood (σ : SI) (x1 : Int32) (x2 : Int32) (x3 : Int32) : Prop := if (f12_isHouse σ x1) = true then (if (f12_in x2 (0 : Int32) (99 : Int32)) = true then (if (f12_in x3 (0 : Int32) (60 : Int32)) = true then (if (σ 123 43) = (10 : Int32) then True else ((vp_in (σ 123 43) 10) ∧ (let s0 := sp σ 145 (Int32.toNatClampNeg (σ 123 43)) x1; (vp_in (σ 123 43) 10) ∧ (let s1 := sp s0 146 (Int32.toNatClampNeg (σ 123 43)) x2; (vp_in (σ 123 43) 10) ∧ (let s2 := sp s1 147 (Int32.toNatClampNeg (σ 123 43)) x3; let s3 := sp s2 123 43 ((σ 123 43) + (1 : Int32)); True))))) else True) else True) else True
theorem w_f12_stood (σ : SI) (x1 : Int32) (x2 : Int32) (x3 : Int32) (a : Nat) (h0 : a ≠ 123) (h1 : a ≠ 145) (h2 : a ≠ 146) (h3 : a ≠ 147) : (f12_stood σ x1 x2 x3).2 a = σ a := by
  refine fp_to2 ?_
  unfold f12_stood
  exact (fr_ite2 (fr_ite2 (fr_ite2 (fr_ite2 (fr_mk21 rfl) (fr_mk21 ((sp_n h0).trans ((sp_n h3).trans ((sp_n h2).trans (sp_n h1)))))) (fr_mk21 rfl)) (fr_mk21 rfl)) (fr_mk21 rfl))
set_option maxHeartbeats 4000000 in
set_option maxRecDepth 100000 in
theorem c12_stood (l : Launch) (G : GT) (σ : SI) (τ : SL) (x1 : Int32) (x2 : Int32) (x3 : Int32) (ho : o12_stood σ x1 x2 x3) : Mc l yX12_stood cX12_stood 4 (some .int) 2 G [.ref (G.2.1 123), .int x1, .int x2, .int x3] σ τ (Qi G (Ei (f12_stood σ x1 x2 x3).1 (f12_stood σ x1 x2 x3).2 τ)) := by
  refine m_start (by decide +kernel) (Nat.le_of_ble_eq_true rfl) rfl (fun p e s m args below meth c ls X I hl => ?_)
  have hl : lv_has ls 4 [(0, .ref (G.2.1 123)), (1, .int x1), (2, .int x2), (3, .int x3)] := hl
  obtain ⟨E, hE⟩ : ∃ E, E = (f12_stood σ x1 x2 x3) := ⟨_, rfl⟩
  rw [← hE]
  unfold o12_stood at ho
  refine lv_aload_n X.1 X.2.1 dX12_stood_0 rfl (lv_at hl 0 rfl) ?_
  refine lv_iload_n X.1 X.2.1 dX12_stood_1 rfl (lv_at hl 1 rfl) ?_
  refine r_ei I (r_runV X I pk_X12_isHouse (c12_isHouse l G _ _ _) lm_X12_332 (by decide) (cl_12 rfl) rfl rfl rfl hl.1 rfl (Nat.le_of_ble_eq_true rfl) dX12_stood_2 ⟨Nat.le_of_ble_eq_true rfl, Nat.le_of_ble_eq_true rfl⟩ ⟨Nat.le_refl 0, Nat.le_refl 0⟩) (fun H locs I => ?_)
  refine lv_if_eq (tgt := 37) X.1 X.2.1 dX12_stood_5 (by decide) (fun c_1 => ?_) (fun c_1 => ?_)
  · skip
    have hE := ite_f hE (b2i_n c_1)
    have ho := ite_fP ho (b2i_n c_1)
    refine lv_iconst (v := (-1)) X.1 X.2.1 dX12_stood_37 (by decide) ?_
    have h9 := hE
    exact r_iret X I (e_i (pr_fst h9) (pr_snd h9) rfl) dX12_stood_38
  · skip
    have hE := ite_t hE (b2i_y c_1)
    have ho := ite_tP ho (b2i_y c_1)
    refine lv_iload_n X.1 X.2.1 dX12_stood_8 rfl (lv_at hl 2 rfl) ?_
    refine lv_iconst (v := 0) X.1 X.2.1 dX12_stood_9 (by decide) ?_
    refine lv_bipush (v := 99) X.1 X.2.1 dX12_stood_10 (by decide) ?_
    refine r_ei I (r_runS X I pk_X12_in (c12_in l G _ _ _ _ _) lm_X12_220 rfl hl.1 rfl (Nat.le_of_ble_eq_true rfl) dX12_stood_12 ⟨Nat.le_of_ble_eq_true rfl, Nat.le_of_ble_eq_true rfl⟩ ⟨Nat.le_refl 0, Nat.le_refl 0⟩) (fun H locs I => ?_)
    refine lv_if_eq (tgt := 37) X.1 X.2.1 dX12_stood_15 (by decide) (fun c_2 => ?_) (fun c_2 => ?_)
    · skip
      have hE := ite_f hE (b2i_n c_2)
      have ho := ite_fP ho (b2i_n c_2)
      refine lv_iconst (v := (-1)) X.1 X.2.1 dX12_stood_37 (by decide) ?_
      have h9 := hE
      exact r_iret X I (e_i (pr_fst h9) (pr_snd h9) rfl) dX12_stood_38
    · skip
      have hE := ite_t hE (b2i_y c_2)
      have ho := ite_tP ho (b2i_y c_2)
      refine lv_iload_n X.1 X.2.1 dX12_stood_18 rfl (lv_at hl 3 rfl) ?_
      refine lv_iconst (v := 0) X.1 X.2.1 dX12_stood_19 (by decide) ?_
      refine lv_bipush (v := 60) X.1 X.2.1 dX12_stood_20 (by decide) ?_
      refine r_ei I (r_runS X I pk_X12_in (c12_in l G _ _ _ _ _) lm_X12_220 rfl hl.1 rfl (Nat.le_of_ble_eq_true rfl) dX12_stood_22 ⟨Nat.le_of_ble_eq_true rfl, Nat.le_of_ble_eq_true rfl⟩ ⟨Nat.le_refl 0, Nat.le_refl 0⟩) (fun H locs I => ?_)
      refine lv_if_eq (tgt := 37) X.1 X.2.1 dX12_stood_25 (by decide) (fun c_3 => ?_) (fun c_3 => ?_)
      · skip
        have hE := ite_f hE (b2i_n c_3)
        have ho := ite_fP ho (b2i_n c_3)
        refine lv_iconst (v := (-1)) X.1 X.2.1 dX12_stood_37 (by decide) ?_
        have h9 := hE
        exact r_iret X I (e_i (pr_fst h9) (pr_snd h9) rfl) dX12_stood_38
      · skip
        have hE := ite_t hE (b2i_y c_3)
        have ho := ite_tP ho (b2i_y c_3)
        refine lv_aload_n X.1 X.2.1 dX12_stood_28 rfl (lv_at hl 0 rfl) ?_
        refine g12_43 X I (k := 123) (by decide) rfl lf_X12_273 dX12_stood_29 ?_
        refine lv_bipush (v := 10) X.1 X.2.1 dX12_stood_32 (by decide) ?_
        refine lv_icmp_ne (tgt := 39) X.1 X.2.1 dX12_stood_34 (by decide) (fun c_4 => ?_) (fun c_4 => ?_)
        · skip
          have hE := ite_f hE c_4
          have ho := ite_fP ho c_4
          refine lv_aload_n X.1 X.2.1 dX12_stood_39 rfl (lv_at hl 0 rfl) ?_
          refine g12_40 X I (k := 123) (by decide) rfl lf_X12_80 dX12_stood_40 ?_
          refine lv_aload_n X.1 X.2.1 dX12_stood_43 rfl (lv_at hl 0 rfl) ?_
          refine g12_43 X I (k := 123) (by decide) rfl lf_X12_273 dX12_stood_44 ?_
          refine lv_iload_n X.1 X.2.1 dX12_stood_47 rfl (lv_at hl 1 rfl) ?_
          have ho1 := ho.1
          have ho := ho.2
          refine r_ast X I (k := 145) (n := 10) (by decide) rfl ho1 dX12_stood_48 (fun H locs I => ?_)
          refine lv_aload_n X.1 X.2.1 dX12_stood_49 rfl (lv_at hl 0 rfl) ?_
          refine g12_41 X I (k := 123) (by decide) rfl lf_X12_83 dX12_stood_50 ?_
          refine lv_aload_n X.1 X.2.1 dX12_stood_53 rfl (lv_at hl 0 rfl) ?_
          refine g12_43 X I (k := 123) (by decide) rfl lf_X12_273 dX12_stood_54 ?_
          refine lv_iload_n X.1 X.2.1 dX12_stood_57 rfl (lv_at hl 2 rfl) ?_
          have ho2 := ho.1
          have ho := ho.2
          refine r_ast X I (k := 146) (n := 10) (by decide) rfl ho2 dX12_stood_58 (fun H locs I => ?_)
          refine lv_aload_n X.1 X.2.1 dX12_stood_59 rfl (lv_at hl 0 rfl) ?_
          refine g12_42 X I (k := 123) (by decide) rfl lf_X12_86 dX12_stood_60 ?_
          refine lv_aload_n X.1 X.2.1 dX12_stood_63 rfl (lv_at hl 0 rfl) ?_
          refine g12_43 X I (k := 123) (by decide) rfl lf_X12_273 dX12_stood_64 ?_
          refine lv_iload_n X.1 X.2.1 dX12_stood_67 rfl (lv_at hl 3 rfl) ?_
          have ho3 := ho.1
          have ho := ho.2
          refine r_ast X I (k := 147) (n := 10) (by decide) rfl ho3 dX12_stood_68 (fun H locs I => ?_)
          refine lv_aload_n X.1 X.2.1 dX12_stood_69 rfl (lv_at hl 0 rfl) ?_
          refine lv_dup X.1 X.2.1 dX12_stood_70 rfl ?_
          refine g12_43 X I (k := 123) (by decide) rfl lf_X12_273 dX12_stood_71 ?_
          refine lv_iconst (v := 1) X.1 X.2.1 dX12_stood_74 (by decide) ?_
          refine lv_iadd X.1 X.2.1 dX12_stood_75 ?_
          refine p12_43 X I (k := 123) (by decide) rfl lf_X12_273 dX12_stood_76 (fun H locs I => ?_)
          refine lv_aload_n X.1 X.2.1 dX12_stood_79 rfl (lv_at hl 0 rfl) ?_
          refine g12_43 X I (k := 123) (by decide) rfl lf_X12_273 dX12_stood_80 ?_
          have h9 := hE
          exact r_iret X I (e_i (pr_fst h9) (pr_snd h9) rfl) dX12_stood_83
        · skip
          have hE := ite_t hE c_4
          have ho := ite_tP ho c_4
          refine lv_iconst (v := (-1)) X.1 X.2.1 dX12_stood_37 (by decide) ?_
          have h9 := hE
          exact r_iret X I (e_i (pr_fst h9) (pr_snd h9) rfl) dX12_stood_38
