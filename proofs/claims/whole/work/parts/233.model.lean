noncomputable def f12_contents_c4 (σ : SI) : Nat → Int32 → Int32 → Int32
  | 0, _, _ => 0
  | fu + 1, v1, v2 => if (σ 123 25) ≤ v2 then v1 else (if (σ 140 (Int32.toNatClampNeg ((0 : Int32) + v2))) = (0 : Int32) then (f12_contents_c4 σ fu (v1 ||| ((1 : Int32) <<< (v2 &&& 31))) (v2 + 1)) else (f12_contents_c4 σ fu (v1 ||| (0 : Int32)) (v2 + 1)))
noncomputable def o12_contents_c4 (σ : SI) : Nat → Int32 → Int32 → Prop
  | 0, _, _ => True
  | fu + 1, v1, v2 => if (σ 123 25) ≤ v2 then True else ((vp_in ((0 : Int32) + v2) 255) ∧ (if (σ 140 (Int32.toNatClampNeg ((0 : Int32) + v2))) = (0 : Int32) then (o12_contents_c4 σ fu (v1 ||| ((1 : Int32) <<< (v2 &&& 31))) (v2 + 1)) else (o12_contents_c4 σ fu (v1 ||| (0 : Int32)) (v2 + 1))))
noncomputable def f12_contents (σ : SI) : Int32 := (f12_contents_c4 σ (fu1 ((Int32.toInt (σ 123 25) - Int32.toInt (0 : Int32)).toNat)) (0 : Int32) (0 : Int32))
noncomputable def o12_contents (σ : SI) : Prop := (o12_contents_c4 σ (fu1 ((Int32.toInt (σ 123 25) - Int32.toInt (0 : Int32)).toNat)) (0 : Int32) (0 : Int32))
set_option maxHeartbeats 4000000 in
set_option maxRecDepth 100000 in
theorem c12_contents_c4 {l : Launch} {p : Program} {e : Env} {s : State} {m : MethodId} {args : Array Value} {below : List Frame} {meth : Method} {c : Code} {G : GT} (X : CX p s m args meth c cX12_contents RX12 3 (some .int) G) {E : Int32} (σ : SI) (τ : SL) : ∀ (fu : Nat) (v1 : Int32) (v2 : Int32) (H : Heap) (locs : List Loc) (ls : Array Slot), IX G s H locs σ τ → lv_has ls 3 [(0, .ref (G.2.1 123)), (1, .int v1), (2, .int v2)] → (o12_contents_c4 σ fu v1 v2) → (Int32.toInt (σ 123 25) - Int32.toInt v2).toNat < fu → E = (f12_contents_c4 σ fu v1 v2) → W p l e (rmN 0) s m args below meth c H locs 0 0 (MQ below ((Qi G (Ei E σ τ)) s.heap.size) args s 0 0 (AW G s.heap.size)) (F0 m 4 ls []) := by
  intro fu
  induction fu with
  | zero =>
    intro v1 v2 H locs ls I hl  ho hm hE
    exact absurd hm (Nat.not_lt_zero _)
  | succ fu ih =>
    intro v1 v2 H locs ls I hl  ho hm hE
    unfold o12_contents_c4 at ho
    refine lv_iload_n X.1 X.2.1 dX12_contents_4 rfl (lv_at hl 2 rfl) ?_
    refine lv_aload_n X.1 X.2.1 dX12_contents_5 rfl (lv_at hl 0 rfl) ?_
    refine g12_25 X I (k := 123) (by decide) rfl lf_X12_264 dX12_contents_6 ?_
    refine lv_icmp_ge (tgt := 39) X.1 X.2.1 dX12_contents_9 (by decide) (fun c_1 => ?_) (fun c_1 => ?_)
    · skip
      have hE := ite_t hE c_1
      have ho := ite_tP ho c_1
      refine lv_iload_n X.1 X.2.1 dX12_contents_39 rfl (lv_at hl 1 rfl) ?_
      have h9 := hE
      exact r_iret X I (e_i h9.symm rfl rfl) dX12_contents_40
    · skip
      have hE := ite_f hE c_1
      have ho := ite_fP ho c_1
      refine lv_iload_n X.1 X.2.1 dX12_contents_12 rfl (lv_at hl 1 rfl) ?_
      refine lv_aload_n X.1 X.2.1 dX12_contents_13 rfl (lv_at hl 0 rfl) ?_
      refine g12_27 X I (k := 123) (by decide) rfl lf_X12_58 dX12_contents_14 ?_
      refine lv_iconst (v := 0) X.1 X.2.1 dX12_contents_17 (by decide) ?_
      refine lv_iload_n X.1 X.2.1 dX12_contents_18 rfl (lv_at hl 2 rfl) ?_
      refine lv_iadd X.1 X.2.1 dX12_contents_19 ?_
      have ho1 := ho.1
      have ho := ho.2
      refine r_ald X I (k := 140) (n := 255) (by decide) rfl ho1 dX12_contents_20 ?_
      refine lv_if_ne (tgt := 30) X.1 X.2.1 dX12_contents_21 (by decide) (fun c_2 => ?_) (fun c_2 => ?_)
      · skip
        have hE := ite_f hE c_2
        have ho := ite_fP ho c_2
        refine lv_iconst (v := 0) X.1 X.2.1 dX12_contents_30 (by decide) ?_
        refine lv_ior X.1 X.2.1 dX12_contents_31 ?_
        refine lv_istore_n (lv' := [(1, .int _), (0, .ref _), (2, .int _)]) X.1 X.2.1 dX12_contents_32 rfl hl (by decide) rfl (fun ls hl => ?_)
        refine lv_iinc (v := _ + 1) (lv' := [(2, .int _), (1, .int _), (0, .ref _)]) X.1 X.2.1 dX12_contents_33 hl (k := 2) rfl rfl (by decide) rfl (fun ls hl => ?_)
        refine lv_goto (tgt := 4) X.1 X.2.1 dX12_contents_36 (by decide) ?_
        exact ih _ _ _ _ _ I (lv_sub hl [2, 1, 0] rfl) ho (Nat.lt_of_lt_of_le (up_dec c_1) (Nat.le_of_lt_succ hm)) (hE.trans (rfl))
      · skip
        have hE := ite_t hE c_2
        have ho := ite_tP ho c_2
        refine lv_iconst (v := 1) X.1 X.2.1 dX12_contents_24 (by decide) ?_
        refine lv_iload_n X.1 X.2.1 dX12_contents_25 rfl (lv_at hl 2 rfl) ?_
        refine lv_ishl X.1 X.2.1 dX12_contents_26 ?_
        refine lv_goto (tgt := 31) X.1 X.2.1 dX12_contents_27 (by decide) ?_
        refine lv_ior X.1 X.2.1 dX12_contents_31 ?_
        refine lv_istore_n (lv' := [(1, .int _), (0, .ref _), (2, .int _)]) X.1 X.2.1 dX12_contents_32 rfl hl (by decide) rfl (fun ls hl => ?_)
        refine lv_iinc (v := _ + 1) (lv' := [(2, .int _), (1, .int _), (0, .ref _)]) X.1 X.2.1 dX12_contents_33 hl (k := 2) rfl rfl (by decide) rfl (fun ls hl => ?_)
        refine lv_goto (tgt := 4) X.1 X.2.1 dX12_contents_36 (by decide) ?_
        exact ih _ _ _ _ _ I (lv_sub hl [2, 1, 0] rfl) ho (Nat.lt_of_lt_of_le (up_dec c_1) (Nat.le_of_lt_succ hm)) (hE.trans (rfl))
set_option maxHeartbeats 4000000 in
set_option maxRecDepth 100000 in
theorem c12_contents (l : Launch) (G : GT) (σ : SI) (τ : SL) (ho : o12_contents σ) : Mc l yX12_contents cX12_contents 3 (some .int) 0 G [.ref (G.2.1 123)] σ τ (Qi G (Ei (f12_contents σ) σ τ)) := by
  refine m_start (by decide +kernel) (Nat.le_of_ble_eq_true rfl) rfl (fun p e s m args below meth c ls X I hl => ?_)
  have hl : lv_has ls 3 [(0, .ref (G.2.1 123))] := hl
  obtain ⟨E, hE⟩ : ∃ E, E = (f12_contents σ) := ⟨_, rfl⟩
  rw [← hE]
  unfold o12_contents at ho
  refine lv_iconst (v := 0) X.1 X.2.1 dX12_contents_0 (by decide) ?_
  refine lv_istore_n (lv' := [(1, .int _), (0, .ref _)]) X.1 X.2.1 dX12_contents_1 rfl hl (by decide) rfl (fun ls hl => ?_)
  refine lv_iconst (v := 0) X.1 X.2.1 dX12_contents_2 (by decide) ?_
  refine lv_istore_n (lv' := [(2, .int _), (1, .int _), (0, .ref _)]) X.1 X.2.1 dX12_contents_3 rfl hl (by decide) rfl (fun ls hl => ?_)
  exact c12_contents_c4 X _ _  _ _ _ _ _ _ I (lv_sub hl [2, 1, 0] rfl) ho (fu1_lt _) (hE.trans (rfl))
noncomputable def f12_most_c26 (σ : SI) (x1 : Int32) : Nat → Int32 → Int32 → Int32 → Int32
  | 0, _, _, _ => 0
  | fu + 1, v2, v3, v4 => if (σ 123 25) ≤ v4 then (if x1 = 0 then v2 else (if x1 = 1 then (f12_nearest σ) else (if x1 = 2 then v3 else (if x1 = 3 then (f12_contents σ) else (if x1 = 4 then ((σ 137 0) - (σ 140 8)) else (if x1 = 5 then ((f12_allStrength σ) - (σ 140 9)) else (if x1 = 6 then (σ 140 11) else (if (σ 140 10) = (-1 : Int32) then (0 : Int32) else (f12_stepsTo σ (-1 : Int32) (σ 140 10)))))))))) else (if (σ 140 (Int32.toNatClampNeg ((0 : Int32) + v4))) ≤ (σ 140 (Int32.toNatClampNeg ((0 : Int32) + v2))) then (if (f12_stepsTo σ (-1 : Int32) v4) ≤ (f12_stepsTo σ (-1 : Int32) v3) then (f12_most_c26 σ x1 fu v2 v3 (v4 + 1)) else (f12_most_c26 σ x1 fu v2 v4 (v4 + 1))) else (if (f12_stepsTo σ (-1 : Int32) v4) ≤ (f12_stepsTo σ (-1 : Int32) v3) then (f12_most_c26 σ x1 fu v4 v3 (v4 + 1)) else (f12_most_c26 σ x1 fu v4 v4 (v4 + 1))))
noncomputable def o12_most_c26 (σ : SI) (x1 : Int32) : Nat → Int32 → Int32 → Int32 → Prop
  | 0, _, _, _ => True
  | fu + 1, v2, v3, v4 => if (σ 123 25) ≤ v4 then (if x1 = 0 then True else (if x1 = 1 then ((o12_nearest σ) ∧ True) else (if x1 = 2 then True else (if x1 = 3 then ((o12_contents σ) ∧ True) else (if x1 = 4 then True else (if x1 = 5 then ((o12_allStrength σ) ∧ True) else (if x1 = 6 then True else (if (σ 140 10) = (-1 : Int32) then True else ((o12_stepsTo σ (-1 : Int32) (σ 140 10)) ∧ True))))))))) else ((vp_in ((0 : Int32) + v4) 255) ∧ ((vp_in ((0 : Int32) + v2) 255) ∧ (if (σ 140 (Int32.toNatClampNeg ((0 : Int32) + v4))) ≤ (σ 140 (Int32.toNatClampNeg ((0 : Int32) + v2))) then ((o12_stepsTo σ (-1 : Int32) v4) ∧ ((o12_stepsTo σ (-1 : Int32) v3) ∧ (if (f12_stepsTo σ (-1 : Int32) v4) ≤ (f12_stepsTo σ (-1 : Int32) v3) then (o12_most_c26 σ x1 fu v2 v3 (v4 + 1)) else (o12_most_c26 σ x1 fu v2 v4 (v4 + 1))))) else ((o12_stepsTo σ (-1 : Int32) v4) ∧ ((o12_stepsTo σ (-1 : Int32) v3) ∧ (if (f12_stepsTo σ (-1 : Int32) v4) ≤ (f12_stepsTo σ (-1 : Int32) v3) then (o12_most_c26 σ x1 fu v4 v3 (v4 + 1)) else (o12_most_c26 σ x1 fu v4 v4 (v4 + 1))))))))
noncomputable def f12_most (σ : SI) (x1 : Int32) : Int32 := if (σ 123 25) = (0 : Int32) then (-1 : Int32) else (if (f12_in x1 (0 : Int32) (7 : Int32)) = true then (f12_most_c26 σ x1 (fu1 ((Int32.toInt (σ 123 25) - Int32.toInt (1 : Int32)).toNat)) (0 : Int32) (0 : Int32) (1 : Int32)) else (-1 : Int32))
noncomputable def o12_most (σ : SI) (x1 : Int32) : Prop := if (σ 123 25) = (0 : Int32) then True else (if (f12_in x1 (0 : Int32) (7 : Int32)) = true then (o12_most_c26 σ x1 (fu1 ((Int32.toInt (σ 123 25) - Int32.toInt (1 : Int32)).toNat)) (0 : Int32) (0 : Int32) (1 : Int32)) else True)
set_option maxHeartbeats 4000000 in
set_option maxRecDepth 100000 in
theorem c12_most_c26 {l : Launch} {p : Program} {e : Env} {s : State} {m : MethodId} {args : Array Value} {below : List Frame} {meth : Method} {c : Code} {G : GT} (X : CX p s m args meth c cX12_most RX12 5 (some .int) G) {E : Int32} (σ : SI) (τ : SL) (x1 : Int32) : ∀ (fu : Nat) (v2 : Int32) (v3 : Int32) (v4 : Int32) (H : Heap) (locs : List Loc) (ls : Array Slot), IX G s H locs σ τ → lv_has ls 5 [(0, .ref (G.2.1 123)), (1, .int x1), (2, .int v2), (3, .int v3), (4, .int v4)] → (o12_most_c26 σ x1 fu v2 v3 v4) → (Int32.toInt (σ 123 25) - Int32.toInt v4).toNat < fu → E = (f12_most_c26 σ x1 fu v2 v3 v4) → W p l e (rmN 4) s m args below meth c H locs 0 0 (MQ below ((Qi G (Ei E σ τ)) s.heap.size) args s 0 0 (AW G s.heap.size)) (F0 m 26 ls []) := by
  intro fu
  induction fu with
  | zero =>
    intro v2 v3 v4 H locs ls I hl  ho hm hE
    exact absurd hm (Nat.not_lt_zero _)
  | succ fu ih =>
    intro v2 v3 v4 H locs ls I hl  ho hm hE
    unfold o12_most_c26 at ho
    refine lv_iload X.1 X.2.1 dX12_most_26 (lv_at hl 4 rfl) ?_
    refine lv_aload_n X.1 X.2.1 dX12_most_28 rfl (lv_at hl 0 rfl) ?_
    refine g12_25 X I (k := 123) (by decide) rfl lf_X12_264 dX12_most_29 ?_
    refine lv_icmp_ge (tgt := 91) X.1 X.2.1 dX12_most_32 (by decide) (fun c_3 => ?_) (fun c_3 => ?_)
    · skip
      have hE := ite_t hE c_3
      have ho := ite_tP ho c_3
      refine lv_iload_n X.1 X.2.1 dX12_most_91 rfl (lv_at hl 1 rfl) ?_
      rcases Classical.em (x1 = 0) with c_4 | c_4
      · skip
        have hE := ite_t hE c_4
        have ho := ite_tP ho c_4
        refine lv_tableIn (off := 44) (tgt := 136) X.1 X.2.1 dX12_most_92 (by rw [c_4]; decide) (by rw [c_4]; decide) (by rw [c_4]; decide) (by decide) ?_
        refine lv_iload_n X.1 X.2.1 dX12_most_136 rfl (lv_at hl 2 rfl) ?_
        have h9 := hE
        exact r_iret X I (e_i h9.symm rfl rfl) dX12_most_137
      have hE := ite_f hE c_4
      have ho := ite_fP ho c_4
      rcases Classical.em (x1 = 1) with c_5 | c_5
      · skip
        have hE := ite_t hE c_5
        have ho := ite_tP ho c_5
        refine lv_tableIn (off := 46) (tgt := 138) X.1 X.2.1 dX12_most_92 (by rw [c_5]; decide) (by rw [c_5]; decide) (by rw [c_5]; decide) (by decide) ?_
        refine lv_aload_n X.1 X.2.1 dX12_most_138 rfl (lv_at hl 0 rfl) ?_
        have ho1 := ho.1
        have ho := ho.2
        refine r_ei I (r_runV X I pk_X12_nearest (c12_nearest l G _ _ ho1) lm_X12_442 (by decide) (cl_12 rfl) rfl rfl rfl hl.1 rfl (Nat.le_of_ble_eq_true rfl) dX12_most_139 ⟨Nat.le_of_ble_eq_true rfl, Nat.le_of_ble_eq_true rfl⟩ ⟨Nat.le_refl 0, Nat.le_refl 0⟩) (fun H locs I => ?_)
        have h9 := hE
        exact r_iret X I (e_i h9.symm rfl rfl) dX12_most_142
      have hE := ite_f hE c_5
      have ho := ite_fP ho c_5
      rcases Classical.em (x1 = 2) with c_6 | c_6
      · skip
        have hE := ite_t hE c_6
        have ho := ite_tP ho c_6
        refine lv_tableIn (off := 51) (tgt := 143) X.1 X.2.1 dX12_most_92 (by rw [c_6]; decide) (by rw [c_6]; decide) (by rw [c_6]; decide) (by decide) ?_
        refine lv_iload_n X.1 X.2.1 dX12_most_143 rfl (lv_at hl 3 rfl) ?_
        have h9 := hE
        exact r_iret X I (e_i h9.symm rfl rfl) dX12_most_144
      have hE := ite_f hE c_6
      have ho := ite_fP ho c_6
      rcases Classical.em (x1 = 3) with c_7 | c_7
      · skip
        have hE := ite_t hE c_7
        have ho := ite_tP ho c_7
        refine lv_tableIn (off := 53) (tgt := 145) X.1 X.2.1 dX12_most_92 (by rw [c_7]; decide) (by rw [c_7]; decide) (by rw [c_7]; decide) (by decide) ?_
        refine lv_aload_n X.1 X.2.1 dX12_most_145 rfl (lv_at hl 0 rfl) ?_
        have ho2 := ho.1
        have ho := ho.2
        refine r_ei I (r_runV X I pk_X12_contents (c12_contents l G _ _ ho2) lm_X12_445 (by decide) (cl_12 rfl) rfl rfl rfl hl.1 rfl (Nat.le_of_ble_eq_true rfl) dX12_most_146 ⟨Nat.le_of_ble_eq_true rfl, Nat.le_of_ble_eq_true rfl⟩ ⟨Nat.le_refl 0, Nat.le_refl 0⟩) (fun H locs I => ?_)
        have h9 := hE
        exact r_iret X I (e_i h9.symm rfl rfl) dX12_most_149
      have hE := ite_f hE c_7
      have ho := ite_fP ho c_7
      rcases Classical.em (x1 = 4) with c_8 | c_8
      · skip
        have hE := ite_t hE c_8
        have ho := ite_tP ho c_8
        refine lv_tableIn (off := 58) (tgt := 150) X.1 X.2.1 dX12_most_92 (by rw [c_8]; decide) (by rw [c_8]; decide) (by rw [c_8]; decide) (by decide) ?_
        refine lv_aload_n X.1 X.2.1 dX12_most_150 rfl (lv_at hl 0 rfl) ?_
        refine g12_22 X I (k := 123) (by decide) rfl lf_X12_49 dX12_most_151 ?_
        refine lv_iconst (v := 0) X.1 X.2.1 dX12_most_154 (by decide) ?_
        refine r_ald X I (k := 137) (n := 3) (by decide) rfl (by unfold vp_in; decide) dX12_most_155 ?_
        refine lv_aload_n X.1 X.2.1 dX12_most_156 rfl (lv_at hl 0 rfl) ?_
        refine g12_27 X I (k := 123) (by decide) rfl lf_X12_58 dX12_most_157 ?_
        refine lv_bipush (v := 8) X.1 X.2.1 dX12_most_160 (by decide) ?_
        refine r_ald X I (k := 140) (n := 255) (by decide) rfl (by unfold vp_in; decide) dX12_most_162 ?_
        refine lv_isub X.1 X.2.1 dX12_most_163 ?_
        have h9 := hE
        exact r_iret X I (e_i h9.symm rfl rfl) dX12_most_164
      have hE := ite_f hE c_8
      have ho := ite_fP ho c_8
      rcases Classical.em (x1 = 5) with c_9 | c_9
      · skip
        have hE := ite_t hE c_9
        have ho := ite_tP ho c_9
        refine lv_tableIn (off := 73) (tgt := 165) X.1 X.2.1 dX12_most_92 (by rw [c_9]; decide) (by rw [c_9]; decide) (by rw [c_9]; decide) (by decide) ?_
        refine lv_aload_n X.1 X.2.1 dX12_most_165 rfl (lv_at hl 0 rfl) ?_
        have ho3 := ho.1
        have ho := ho.2
        refine r_ei I (r_runV X I pk_X12_allStrength (c12_allStrength l G _ _ ho3) lm_X12_329 (by decide) (cl_12 rfl) rfl rfl rfl hl.1 rfl (Nat.le_of_ble_eq_true rfl) dX12_most_166 ⟨Nat.le_of_ble_eq_true rfl, Nat.le_of_ble_eq_true rfl⟩ ⟨Nat.le_refl 0, Nat.le_refl 0⟩) (fun H locs I => ?_)
        refine lv_aload_n X.1 X.2.1 dX12_most_169 rfl (lv_at hl 0 rfl) ?_
        refine g12_27 X I (k := 123) (by decide) rfl lf_X12_58 dX12_most_170 ?_
        refine lv_bipush (v := 9) X.1 X.2.1 dX12_most_173 (by decide) ?_
        refine r_ald X I (k := 140) (n := 255) (by decide) rfl (by unfold vp_in; decide) dX12_most_175 ?_
        refine lv_isub X.1 X.2.1 dX12_most_176 ?_
        have h9 := hE
        exact r_iret X I (e_i h9.symm rfl rfl) dX12_most_177
      have hE := ite_f hE c_9
      have ho := ite_fP ho c_9
      rcases Classical.em (x1 = 6) with c_10 | c_10
      · skip
        have hE := ite_t hE c_10
        have ho := ite_tP ho c_10
        refine lv_tableIn (off := 86) (tgt := 178) X.1 X.2.1 dX12_most_92 (by rw [c_10]; decide) (by rw [c_10]; decide) (by rw [c_10]; decide) (by decide) ?_
        refine lv_aload_n X.1 X.2.1 dX12_most_178 rfl (lv_at hl 0 rfl) ?_
        refine g12_27 X I (k := 123) (by decide) rfl lf_X12_58 dX12_most_179 ?_
        refine lv_bipush (v := 11) X.1 X.2.1 dX12_most_182 (by decide) ?_
        refine r_ald X I (k := 140) (n := 255) (by decide) rfl (by unfold vp_in; decide) dX12_most_184 ?_
        have h9 := hE
        exact r_iret X I (e_i h9.symm rfl rfl) dX12_most_185
      have hE := ite_f hE c_10
      have ho := ite_fP ho c_10
      refine lv_tableD (L := [0, 1, 2, 3, 4, 5, 6]) (tgt := 186) X.1 X.2.1 dX12_most_92 (by decide) (List.forall_mem_cons.mpr ⟨c_4, (List.forall_mem_cons.mpr ⟨c_5, (List.forall_mem_cons.mpr ⟨c_6, (List.forall_mem_cons.mpr ⟨c_7, (List.forall_mem_cons.mpr ⟨c_8, (List.forall_mem_cons.mpr ⟨c_9, (List.forall_mem_cons.mpr ⟨c_10, (fun _ h => absurd h List.not_mem_nil)⟩)⟩)⟩)⟩)⟩)⟩)⟩) (by decide) ?_
      refine lv_aload_n X.1 X.2.1 dX12_most_186 rfl (lv_at hl 0 rfl) ?_
      refine g12_27 X I (k := 123) (by decide) rfl lf_X12_58 dX12_most_187 ?_
      refine lv_bipush (v := 10) X.1 X.2.1 dX12_most_190 (by decide) ?_
      refine r_ald X I (k := 140) (n := 255) (by decide) rfl (by unfold vp_in; decide) dX12_most_192 ?_
      refine lv_iconst (v := (-1)) X.1 X.2.1 dX12_most_193 (by decide) ?_
      refine lv_icmp_ne (tgt := 201) X.1 X.2.1 dX12_most_194 (by decide) (fun c_11 => ?_) (fun c_11 => ?_)
      · skip
        have hE := ite_f hE c_11
        have ho := ite_fP ho c_11
        refine lv_aload_n X.1 X.2.1 dX12_most_201 rfl (lv_at hl 0 rfl) ?_
        refine lv_iconst (v := (-1)) X.1 X.2.1 dX12_most_202 (by decide) ?_
        refine lv_aload_n X.1 X.2.1 dX12_most_203 rfl (lv_at hl 0 rfl) ?_
        refine g12_27 X I (k := 123) (by decide) rfl lf_X12_58 dX12_most_204 ?_
        refine lv_bipush (v := 10) X.1 X.2.1 dX12_most_207 (by decide) ?_
        refine r_ald X I (k := 140) (n := 255) (by decide) rfl (by unfold vp_in; decide) dX12_most_209 ?_
        have ho4 := ho.1
        have ho := ho.2
        refine r_ei I (r_runV X I pk_X12_stepsTo (c12_stepsTo l G _ _ _ _ ho4) lm_X12_305 (by decide) (cl_12 rfl) rfl rfl rfl hl.1 rfl (Nat.le_of_ble_eq_true rfl) dX12_most_210 ⟨Nat.le_of_ble_eq_true rfl, Nat.le_of_ble_eq_true rfl⟩ ⟨Nat.le_refl 0, Nat.le_refl 0⟩) (fun H locs I => ?_)
        have h9 := hE
        exact r_iret X I (e_i h9.symm rfl rfl) dX12_most_213
      · skip
        have hE := ite_t hE c_11
        have ho := ite_tP ho c_11
        refine lv_iconst (v := 0) X.1 X.2.1 dX12_most_197 (by decide) ?_
        refine lv_goto (tgt := 213) X.1 X.2.1 dX12_most_198 (by decide) ?_
        have h9 := hE
        exact r_iret X I (e_i h9.symm rfl rfl) dX12_most_213
    · skip
      have hE := ite_f hE c_3
      have ho := ite_fP ho c_3
      refine lv_aload_n X.1 X.2.1 dX12_most_35 rfl (lv_at hl 0 rfl) ?_
      refine g12_27 X I (k := 123) (by decide) rfl lf_X12_58 dX12_most_36 ?_
      refine lv_iconst (v := 0) X.1 X.2.1 dX12_most_39 (by decide) ?_
      refine lv_iload X.1 X.2.1 dX12_most_40 (lv_at hl 4 rfl) ?_
      refine lv_iadd X.1 X.2.1 dX12_most_42 ?_
      have ho5 := ho.1
      have ho := ho.2
      refine r_ald X I (k := 140) (n := 255) (by decide) rfl ho5 dX12_most_43 ?_
      refine lv_aload_n X.1 X.2.1 dX12_most_44 rfl (lv_at hl 0 rfl) ?_
      refine g12_27 X I (k := 123) (by decide) rfl lf_X12_58 dX12_most_45 ?_
      refine lv_iconst (v := 0) X.1 X.2.1 dX12_most_48 (by decide) ?_
      refine lv_iload_n X.1 X.2.1 dX12_most_49 rfl (lv_at hl 2 rfl) ?_
      refine lv_iadd X.1 X.2.1 dX12_most_50 ?_
      have ho6 := ho.1
      have ho := ho.2
      refine r_ald X I (k := 140) (n := 255) (by decide) rfl ho6 dX12_most_51 ?_
      refine lv_icmp_le (tgt := 60) X.1 X.2.1 dX12_most_52 (by decide) (fun c_12 => ?_) (fun c_12 => ?_)
      · skip
        have hE := ite_t hE c_12
        have ho := ite_tP ho c_12
        refine lv_iload_n X.1 X.2.1 dX12_most_60 rfl (lv_at hl 2 rfl) ?_
        refine lv_istore_n (lv' := [(2, .int _), (0, .ref _), (1, .int _), (3, .int _), (4, .int _)]) X.1 X.2.1 dX12_most_61 rfl hl (by decide) rfl (fun ls hl => ?_)
        refine lv_aload_n X.1 X.2.1 dX12_most_62 rfl (lv_at hl 1 rfl) ?_
        refine lv_iconst (v := (-1)) X.1 X.2.1 dX12_most_63 (by decide) ?_
        refine lv_iload X.1 X.2.1 dX12_most_64 (lv_at hl 4 rfl) ?_
        have ho7 := ho.1
        have ho := ho.2
        refine r_ei I (r_runV X I pk_X12_stepsTo (c12_stepsTo l G _ _ _ _ ho7) lm_X12_305 (by decide) (cl_12 rfl) rfl rfl rfl hl.1 rfl (Nat.le_of_ble_eq_true rfl) dX12_most_66 ⟨Nat.le_of_ble_eq_true rfl, Nat.le_of_ble_eq_true rfl⟩ ⟨Nat.le_refl 0, Nat.le_refl 0⟩) (fun H locs I => ?_)
        refine lv_aload_n X.1 X.2.1 dX12_most_69 rfl (lv_at hl 1 rfl) ?_
        refine lv_iconst (v := (-1)) X.1 X.2.1 dX12_most_70 (by decide) ?_
        refine lv_iload_n X.1 X.2.1 dX12_most_71 rfl (lv_at hl 3 rfl) ?_
        have ho8 := ho.1
        have ho := ho.2
        refine r_ei I (r_runV X I pk_X12_stepsTo (c12_stepsTo l G _ _ _ _ ho8) lm_X12_305 (by decide) (cl_12 rfl) rfl rfl rfl hl.1 rfl (Nat.le_of_ble_eq_true rfl) dX12_most_72 ⟨Nat.le_of_ble_eq_true rfl, Nat.le_of_ble_eq_true rfl⟩ ⟨Nat.le_refl 0, Nat.le_refl 0⟩) (fun H locs I => ?_)
        refine lv_icmp_le (tgt := 83) X.1 X.2.1 dX12_most_75 (by decide) (fun c_13 => ?_) (fun c_13 => ?_)
        · skip
          have hE := ite_t hE c_13
          have ho := ite_tP ho c_13
          refine lv_iload_n X.1 X.2.1 dX12_most_83 rfl (lv_at hl 3 rfl) ?_
          refine lv_istore_n (lv' := [(3, .int _), (2, .int _), (0, .ref _), (1, .int _), (4, .int _)]) X.1 X.2.1 dX12_most_84 rfl hl (by decide) rfl (fun ls hl => ?_)
          refine lv_iinc (v := _ + 1) (lv' := [(4, .int _), (3, .int _), (2, .int _), (0, .ref _), (1, .int _)]) X.1 X.2.1 dX12_most_85 hl (k := 4) rfl rfl (by decide) rfl (fun ls hl => ?_)
          refine lv_goto (tgt := 26) X.1 X.2.1 dX12_most_88 (by decide) ?_
          exact ih _ _ _ _ _ _ I (lv_sub hl [3, 4, 2, 1, 0] rfl) ho (Nat.lt_of_lt_of_le (up_dec c_3) (Nat.le_of_lt_succ hm)) (hE.trans (rfl))
        · skip
          have hE := ite_f hE c_13
          have ho := ite_fP ho c_13
          refine lv_iload X.1 X.2.1 dX12_most_78 (lv_at hl 4 rfl) ?_
          refine lv_goto (tgt := 84) X.1 X.2.1 dX12_most_80 (by decide) ?_
          refine lv_istore_n (lv' := [(3, .int _), (2, .int _), (0, .ref _), (1, .int _), (4, .int _)]) X.1 X.2.1 dX12_most_84 rfl hl (by decide) rfl (fun ls hl => ?_)
          refine lv_iinc (v := _ + 1) (lv' := [(4, .int _), (3, .int _), (2, .int _), (0, .ref _), (1, .int _)]) X.1 X.2.1 dX12_most_85 hl (k := 4) rfl rfl (by decide) rfl (fun ls hl => ?_)
          refine lv_goto (tgt := 26) X.1 X.2.1 dX12_most_88 (by decide) ?_
          exact ih _ _ _ _ _ _ I (lv_sub hl [3, 4, 2, 1, 0] rfl) ho (Nat.lt_of_lt_of_le (up_dec c_3) (Nat.le_of_lt_succ hm)) (hE.trans (rfl))
      · skip
        have hE := ite_f hE c_12
        have ho := ite_fP ho c_12
        refine lv_iload X.1 X.2.1 dX12_most_55 (lv_at hl 4 rfl) ?_
        refine lv_goto (tgt := 61) X.1 X.2.1 dX12_most_57 (by decide) ?_
        refine lv_istore_n (lv' := [(2, .int _), (0, .ref _), (1, .int _), (3, .int _), (4, .int _)]) X.1 X.2.1 dX12_most_61 rfl hl (by decide) rfl (fun ls hl => ?_)
        refine lv_aload_n X.1 X.2.1 dX12_most_62 rfl (lv_at hl 1 rfl) ?_
        refine lv_iconst (v := (-1)) X.1 X.2.1 dX12_most_63 (by decide) ?_
        refine lv_iload X.1 X.2.1 dX12_most_64 (lv_at hl 4 rfl) ?_
        have ho9 := ho.1
        have ho := ho.2
        refine r_ei I (r_runV X I pk_X12_stepsTo (c12_stepsTo l G _ _ _ _ ho9) lm_X12_305 (by decide) (cl_12 rfl) rfl rfl rfl hl.1 rfl (Nat.le_of_ble_eq_true rfl) dX12_most_66 ⟨Nat.le_of_ble_eq_true rfl, Nat.le_of_ble_eq_true rfl⟩ ⟨Nat.le_refl 0, Nat.le_refl 0⟩) (fun H locs I => ?_)
        refine lv_aload_n X.1 X.2.1 dX12_most_69 rfl (lv_at hl 1 rfl) ?_
        refine lv_iconst (v := (-1)) X.1 X.2.1 dX12_most_70 (by decide) ?_
        refine lv_iload_n X.1 X.2.1 dX12_most_71 rfl (lv_at hl 3 rfl) ?_
        have ho10 := ho.1
        have ho := ho.2
        refine r_ei I (r_runV X I pk_X12_stepsTo (c12_stepsTo l G _ _ _ _ ho10) lm_X12_305 (by decide) (cl_12 rfl) rfl rfl rfl hl.1 rfl (Nat.le_of_ble_eq_true rfl) dX12_most_72 ⟨Nat.le_of_ble_eq_true rfl, Nat.le_of_ble_eq_true rfl⟩ ⟨Nat.le_refl 0, Nat.le_refl 0⟩) (fun H locs I => ?_)
        refine lv_icmp_le (tgt := 83) X.1 X.2.1 dX12_most_75 (by decide) (fun c_14 => ?_) (fun c_14 => ?_)
        · skip
          have hE := ite_t hE c_14
          have ho := ite_tP ho c_14
          refine lv_iload_n X.1 X.2.1 dX12_most_83 rfl (lv_at hl 3 rfl) ?_
          refine lv_istore_n (lv' := [(3, .int _), (2, .int _), (0, .ref _), (1, .int _), (4, .int _)]) X.1 X.2.1 dX12_most_84 rfl hl (by decide) rfl (fun ls hl => ?_)
          refine lv_iinc (v := _ + 1) (lv' := [(4, .int _), (3, .int _), (2, .int _), (0, .ref _), (1, .int _)]) X.1 X.2.1 dX12_most_85 hl (k := 4) rfl rfl (by decide) rfl (fun ls hl => ?_)
          refine lv_goto (tgt := 26) X.1 X.2.1 dX12_most_88 (by decide) ?_
          exact ih _ _ _ _ _ _ I (lv_sub hl [3, 4, 2, 1, 0] rfl) ho (Nat.lt_of_lt_of_le (up_dec c_3) (Nat.le_of_lt_succ hm)) (hE.trans (rfl))
        · skip
          have hE := ite_f hE c_14
          have ho := ite_fP ho c_14
          refine lv_iload X.1 X.2.1 dX12_most_78 (lv_at hl 4 rfl) ?_
          refine lv_goto (tgt := 84) X.1 X.2.1 dX12_most_80 (by decide) ?_
          refine lv_istore_n (lv' := [(3, .int _), (2, .int _), (0, .ref _), (1, .int _), (4, .int _)]) X.1 X.2.1 dX12_most_84 rfl hl (by decide) rfl (fun ls hl => ?_)
          refine lv_iinc (v := _ + 1) (lv' := [(4, .int _), (3, .int _), (2, .int _), (0, .ref _), (1, .int _)]) X.1 X.2.1 dX12_most_85 hl (k := 4) rfl rfl (by decide) rfl (fun ls hl => ?_)
          refine lv_goto (tgt := 26) X.1 X.2.1 dX12_most_88 (by decide) ?_
          exact ih _ _ _ _ _ _ I (lv_sub hl [3, 4, 2, 1, 0] rfl) ho (Nat.lt_of_lt_of_le (up_dec c_3) (Nat.le_of_lt_succ hm)) (hE.trans (rfl))
set_option maxHeartbeats 4000000 in
set_option maxRecDepth 100000 in
theorem c12_most (l : Launch) (G : GT) (σ : SI) (τ : SL) (x1 : Int32) (ho : o12_most σ x1) : Mc l yX12_most cX12_most 5 (some .int) 4 G [.ref (G.2.1 123), .int x1] σ τ (Qi G (Ei (f12_most σ x1) σ τ)) := by
  refine m_start (by decide +kernel) (Nat.le_of_ble_eq_true rfl) rfl (fun p e s m args below meth c ls X I hl => ?_)
  have hl : lv_has ls 5 [(0, .ref (G.2.1 123)), (1, .int x1)] := hl
  obtain ⟨E, hE⟩ : ∃ E, E = (f12_most σ x1) := ⟨_, rfl⟩
  rw [← hE]
  unfold o12_most at ho
  refine lv_aload_n X.1 X.2.1 dX12_most_0 rfl (lv_at hl 0 rfl) ?_
  refine g12_25 X I (k := 123) (by decide) rfl lf_X12_264 dX12_most_1 ?_
  refine lv_if_eq (tgt := 17) X.1 X.2.1 dX12_most_4 (by decide) (fun c_1 => ?_) (fun c_1 => ?_)
  · skip
    have hE := ite_t hE c_1
    have ho := ite_tP ho c_1
    refine lv_iconst (v := (-1)) X.1 X.2.1 dX12_most_17 (by decide) ?_
    have h9 := hE
    exact r_iret X I (e_i h9.symm rfl rfl) dX12_most_18
  · skip
    have hE := ite_f hE c_1
    have ho := ite_fP ho c_1
    refine lv_iload_n X.1 X.2.1 dX12_most_7 rfl (lv_at hl 1 rfl) ?_
    refine lv_iconst (v := 0) X.1 X.2.1 dX12_most_8 (by decide) ?_
    refine lv_bipush (v := 7) X.1 X.2.1 dX12_most_9 (by decide) ?_
    refine r_ei I (r_runS X I pk_X12_in (c12_in l G _ _ _ _ _) lm_X12_220 rfl hl.1 rfl (Nat.le_of_ble_eq_true rfl) dX12_most_11 ⟨Nat.le_of_ble_eq_true rfl, Nat.le_of_ble_eq_true rfl⟩ ⟨Nat.le_refl 0, Nat.le_refl 0⟩) (fun H locs I => ?_)
    refine lv_if_ne (tgt := 19) X.1 X.2.1 dX12_most_14 (by decide) (fun c_2 => ?_) (fun c_2 => ?_)
    · skip
      have hE := ite_t hE (b2i_y c_2)
      have ho := ite_tP ho (b2i_y c_2)
      refine lv_iconst (v := 0) X.1 X.2.1 dX12_most_19 (by decide) ?_
      refine lv_istore_n (lv' := [(2, .int _), (0, .ref _), (1, .int _)]) X.1 X.2.1 dX12_most_20 rfl hl (by decide) rfl (fun ls hl => ?_)
      refine lv_iconst (v := 0) X.1 X.2.1 dX12_most_21 (by decide) ?_
      refine lv_istore_n (lv' := [(3, .int _), (2, .int _), (0, .ref _), (1, .int _)]) X.1 X.2.1 dX12_most_22 rfl hl (by decide) rfl (fun ls hl => ?_)
      refine lv_iconst (v := 1) X.1 X.2.1 dX12_most_23 (by decide) ?_
      refine lv_istore (lv' := [(4, .int _), (3, .int _), (2, .int _), (0, .ref _), (1, .int _)]) X.1 X.2.1 dX12_most_24 hl (by decide) rfl (fun ls hl => ?_)
      exact c12_most_c26 X _ _ _ _ _ _ _ _ _ _ I (lv_sub hl [3, 4, 2, 1, 0] rfl) ho (fu1_lt _) (hE.trans (rfl))
    · skip
      have hE := ite_f hE (b2i_n c_2)
      have ho := ite_fP ho (b2i_n c_2)
      refine lv_iconst (v := (-1)) X.1 X.2.1 dX12_most_17 (by decide) ?_
      have h9 := hE
      exact r_iret X I (e_i h9.symm rfl rfl) dX12_most_18
