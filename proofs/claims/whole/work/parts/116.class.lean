noncomputable def f6_digits_c4 (σ : SI) : Nat → Int32 → Int32 → Int32
  | 0, _, _ => 0
  | fu + 1, v1, v2 => if (σ 36 2) ≤ v2 then v1 else (f6_digits_c4 σ fu ((v1 * (10 : Int32)) + (f6_houseAt σ v2)) (v2 + 1))
noncomputable def f6_digits (σ : SI) : Int32 := (f6_digits_c4 σ (fu1 ((Int32.toInt (σ 36 2) - Int32.toInt (0 : Int32)).toNat)) (0 : Int32) (0 : Int32))
set_option maxHeartbeats 4000000 in
set_option maxRecDepth 100000 in
theorem c6_digits_c4 {l : Launch} {p : Program} {e : Env} {s : State} {m : MethodId} {args : Array Value} {below : List Frame} {meth : Method} {c : Code} {G : GT} (X : CX p s m args meth c cX6_digits RX6 3 (some .int) G) {E : Int32} (σ : SI) (τ : SL) : ∀ (fu : Nat) (v1 : Int32) (v2 : Int32) (H : Heap) (locs : List Loc) (ls : Array Slot), IX G s H locs σ τ → lv_has ls 3 [(0, .ref (G.2.1 36)), (1, .int v1), (2, .int v2)] → (Int32.toInt (σ 36 2) - Int32.toInt v2).toNat < fu → E = (f6_digits_c4 σ fu v1 v2) → W p l e (rmN 2) s m args below meth c H locs 0 0 (MQ below ((Qi G (Ei E σ τ)) s.heap.size) args s 0 0 (AW G s.heap.size)) (F0 m 4 ls []) := by
  intro fu
  induction fu with
  | zero =>
    intro v1 v2 H locs ls I hl  hm hE
    exact absurd hm (Nat.not_lt_zero _)
  | succ fu ih =>
    intro v1 v2 H locs ls I hl  hm hE
    refine lv_iload_n X.1 X.2.1 dX6_digits_4 rfl (lv_at hl 2 rfl) ?_
    refine lv_aload_n X.1 X.2.1 dX6_digits_5 rfl (lv_at hl 0 rfl) ?_
    refine g6_2 X I (k := 36) (by decide) rfl lf_X6_18 dX6_digits_6 ?_
    refine lv_icmp_ge (tgt := 29) X.1 X.2.1 dX6_digits_9 (by decide) (fun c_1 => ?_) (fun c_1 => ?_)
    · skip
      have hE := ite_t hE c_1
      refine lv_iload_n X.1 X.2.1 dX6_digits_29 rfl (lv_at hl 1 rfl) ?_
      have h9 := hE
      exact r_iret X I (e_i h9.symm rfl rfl) dX6_digits_30
    · skip
      have hE := ite_f hE c_1
      refine lv_iload_n X.1 X.2.1 dX6_digits_12 rfl (lv_at hl 1 rfl) ?_
      refine lv_bipush (v := 10) X.1 X.2.1 dX6_digits_13 (by decide) ?_
      refine lv_imul X.1 X.2.1 dX6_digits_15 ?_
      refine lv_aload_n X.1 X.2.1 dX6_digits_16 rfl (lv_at hl 0 rfl) ?_
      refine lv_iload_n X.1 X.2.1 dX6_digits_17 rfl (lv_at hl 2 rfl) ?_
      refine r_ei I (r_runV X I pk_X6_houseAt (c6_houseAt l G _ _ _) lm_X6_30 (by decide) (cl_6 rfl) rfl rfl rfl hl.1 rfl (Nat.le_of_ble_eq_true rfl) dX6_digits_18 ⟨Nat.le_of_ble_eq_true rfl, Nat.le_of_ble_eq_true rfl⟩ ⟨Nat.le_refl 0, Nat.le_refl 0⟩) (fun H locs I => ?_)
      refine lv_iadd X.1 X.2.1 dX6_digits_21 ?_
      refine lv_istore_n (lv' := [(1, .int _), (0, .ref _), (2, .int _)]) X.1 X.2.1 dX6_digits_22 rfl hl (by decide) rfl (fun ls hl => ?_)
      refine lv_iinc (v := _ + 1) (lv' := [(2, .int _), (1, .int _), (0, .ref _)]) X.1 X.2.1 dX6_digits_23 hl (k := 2) rfl rfl (by decide) rfl (fun ls hl => ?_)
      refine lv_goto (tgt := 4) X.1 X.2.1 dX6_digits_26 (by decide) ?_
      exact ih _ _ _ _ _ I (lv_sub hl [2, 1, 0] rfl) (Nat.lt_of_lt_of_le (up_dec c_1) (Nat.le_of_lt_succ hm)) (hE.trans (rfl))
set_option maxHeartbeats 4000000 in
set_option maxRecDepth 100000 in
theorem c6_digits (l : Launch) (G : GT) (σ : SI) (τ : SL) : Mc l yX6_digits cX6_digits 3 (some .int) 2 G [.ref (G.2.1 36)] σ τ (Qi G (Ei (f6_digits σ) σ τ)) := by
  refine m_start (by decide +kernel) (Nat.le_of_ble_eq_true rfl) rfl (fun p e s m args below meth c ls X I hl => ?_)
  have hl : lv_has ls 3 [(0, .ref (G.2.1 36))] := hl
  obtain ⟨E, hE⟩ : ∃ E, E = (f6_digits σ) := ⟨_, rfl⟩
  rw [← hE]
  refine lv_iconst (v := 0) X.1 X.2.1 dX6_digits_0 (by decide) ?_
  refine lv_istore_n (lv' := [(1, .int _), (0, .ref _)]) X.1 X.2.1 dX6_digits_1 rfl hl (by decide) rfl (fun ls hl => ?_)
  refine lv_iconst (v := 0) X.1 X.2.1 dX6_digits_2 (by decide) ?_
  refine lv_istore_n (lv' := [(2, .int _), (1, .int _), (0, .ref _)]) X.1 X.2.1 dX6_digits_3 rfl hl (by decide) rfl (fun ls hl => ?_)
  exact c6_digits_c4 X _ _  _ _ _ _ _ _ I (lv_sub hl [2, 1, 0] rfl) (fu1_lt _) (hE.trans (rfl))
noncomputable def f7_size (σ : SI) : Int32 := (σ 1 1)
set_option maxHeartbeats 4000000 in
set_option maxRecDepth 100000 in
theorem c7_size (l : Launch) (G : GT) (σ : SI) (τ : SL) : Mc l yX7_size cX7_size 1 (some .int) 0 G [.ref (G.2.1 1)] σ τ (Qi G (Ei (f7_size σ) σ τ)) := by
  refine m_start (by decide +kernel) (Nat.le_of_ble_eq_true rfl) rfl (fun p e s m args below meth c ls X I hl => ?_)
  have hl : lv_has ls 1 [(0, .ref (G.2.1 1))] := hl
  obtain ⟨E, hE⟩ : ∃ E, E = (f7_size σ) := ⟨_, rfl⟩
  rw [← hE]
  refine lv_aload_n X.1 X.2.1 dX7_size_0 rfl (lv_at hl 0 rfl) ?_
  refine g7_1 X I (k := 1) (by decide) rfl lf_X7_19 dX7_size_1 ?_
  have h9 := hE
  exact r_iret X I (e_i h9.symm rfl rfl) dX7_size_4
noncomputable def f7_append_c3 (x1 : Int32) : Nat → Int32 → SI → SI
  | 0, _, σ => σ
  | fu + 1, v2, σ => if v2 < (0 : Int32) then σ else (if (((Int32.toUInt32 x1 >>> (Int32.toUInt32 v2 &&& Int32.toUInt32 31)).toInt32) &&& (255 : Int32)) = (0 : Int32) then (f7_append_c3 x1 fu (v2 + (-8)) σ) else (if (σ 1 1) < (0 : Int32) then (f7_append_c3 x1 fu (v2 + (-8)) σ) else (if (240 : Int32) ≤ (σ 1 1) then (f7_append_c3 x1 fu (v2 + (-8)) σ) else (let s0 := sp σ 2 (Int32.toNatClampNeg (σ 1 1)) (((Int32.toUInt32 x1 >>> (Int32.toUInt32 v2 &&& Int32.toUInt32 31)).toInt32) &&& (255 : Int32)); let s1 := sp s0 1 1 ((σ 1 1) + (1 : Int32)); (f7_append_c3 x1 fu (v2 + (-8)) s1)))))
noncomputable def f7_append (σ : SI) (x1 : Int32) : SI := (f7_append_c3 x1 (fu1 ((Int32.toInt (24 : Int32) + 8).toNat)) (24 : Int32) σ)
theorem w_f7_append_c3 (x1 : Int32) (a : Nat) (h0 : a ≠ 1) (h1 : a ≠ 2) : ∀ (fu : Nat) (v2 : Int32) (σ : SI), (f7_append_c3 x1 fu v2 σ) a = σ a := by
  intro fu
  induction fu with
  | zero => intro v2 σ; exact rfl
  | succ fu ih =>
    intro v2 σ
    unfold f7_append_c3
    exact (fr_ite rfl (fr_ite (ih _ _) (fr_ite (ih _ _) (fr_ite (ih _ _) ((ih _ _).trans ((sp_n h0).trans (sp_n h1)))))))
theorem w_f7_append (σ : SI) (x1 : Int32) (a : Nat) (h0 : a ≠ 1) (h1 : a ≠ 2) : (f7_append σ x1) a = σ a := by
  unfold f7_append
  exact (w_f7_append_c3 _ a h0 h1 _ _ _)
set_option maxHeartbeats 4000000 in
set_option maxRecDepth 100000 in
theorem c7_append_c3 {l : Launch} {p : Program} {e : Env} {s : State} {m : MethodId} {args : Array Value} {below : List Frame} {meth : Method} {c : Code} {G : GT} (X : CX p s m args meth c cX7_append RX7 4 none G) {E : SI} (τ : SL) (x1 : Int32) : ∀ (fu : Nat) (v2 : Int32) (σ : SI) (H : Heap) (locs : List Loc) (ls : Array Slot), IX G s H locs σ τ → lv_has ls 4 [(0, .ref (G.2.1 1)), (1, .int x1), (2, .int v2)] → (Int32.toInt v2 + 8).toNat < fu → E = (f7_append_c3 x1 fu v2 σ) → W p l e (rmN 0) s m args below meth c H locs 0 0 (MQ below ((Qv G (Ev E τ)) s.heap.size) args s 0 0 (AW G s.heap.size)) (F0 m 3 ls []) := by
  intro fu
  induction fu with
  | zero =>
    intro v2 σ H locs ls I hl  hm hE
    exact absurd hm (Nat.not_lt_zero _)
  | succ fu ih =>
    intro v2 σ H locs ls I hl  hm hE
    refine lv_iload_n X.1 X.2.1 dX7_append_3 rfl (lv_at hl 2 rfl) ?_
    refine lv_if_lt (tgt := 64) X.1 X.2.1 dX7_append_4 (by decide) (fun c_1 => ?_) (fun c_1 => ?_)
    · skip
      have hE := ite_t hE c_1
      have h9 := hE
      exact r_vret X I (e_v h9.symm rfl) dX7_append_64
    · skip
      have hE := ite_f hE c_1
      refine lv_iload_n X.1 X.2.1 dX7_append_7 rfl (lv_at hl 1 rfl) ?_
      refine lv_iload_n X.1 X.2.1 dX7_append_8 rfl (lv_at hl 2 rfl) ?_
      refine lv_iushr X.1 X.2.1 dX7_append_9 rfl ?_
      refine lv_sipush (v := 255) X.1 X.2.1 dX7_append_10 (by decide) ?_
      refine lv_iand X.1 X.2.1 dX7_append_13 ?_
      refine lv_istore_n (lv' := [(3, .int _), (0, .ref _), (1, .int _), (2, .int _)]) X.1 X.2.1 dX7_append_14 rfl hl (by decide) rfl (fun ls hl => ?_)
      refine lv_iload_n X.1 X.2.1 dX7_append_15 rfl (lv_at hl 0 rfl) ?_
      refine lv_if_eq (tgt := 58) X.1 X.2.1 dX7_append_16 (by decide) (fun c_2 => ?_) (fun c_2 => ?_)
      · skip
        have hE := ite_t hE c_2
        refine lv_iinc (v := _ + (-8)) (lv' := [(2, .int _), (3, .int _), (0, .ref _), (1, .int _)]) X.1 X.2.1 dX7_append_58 hl (k := 3) rfl rfl (by decide) rfl (fun ls hl => ?_)
        refine lv_goto (tgt := 3) X.1 X.2.1 dX7_append_61 (by decide) ?_
        exact ih _ _ _ _ _ I (lv_sub hl [2, 3, 0] rfl) (Nat.lt_of_lt_of_le (dn_dec8 c_1) (Nat.le_of_lt_succ hm)) (hE.trans (rfl))
      · skip
        have hE := ite_f hE c_2
        refine lv_aload_n X.1 X.2.1 dX7_append_19 rfl (lv_at hl 1 rfl) ?_
        refine g7_1 X I (k := 1) (by decide) rfl lf_X7_19 dX7_append_20 ?_
        refine lv_if_lt (tgt := 58) X.1 X.2.1 dX7_append_23 (by decide) (fun c_3 => ?_) (fun c_3 => ?_)
        · skip
          have hE := ite_t hE c_3
          refine lv_iinc (v := _ + (-8)) (lv' := [(2, .int _), (3, .int _), (0, .ref _), (1, .int _)]) X.1 X.2.1 dX7_append_58 hl (k := 3) rfl rfl (by decide) rfl (fun ls hl => ?_)
          refine lv_goto (tgt := 3) X.1 X.2.1 dX7_append_61 (by decide) ?_
          exact ih _ _ _ _ _ I (lv_sub hl [2, 3, 0] rfl) (Nat.lt_of_lt_of_le (dn_dec8 c_1) (Nat.le_of_lt_succ hm)) (hE.trans (rfl))
        · skip
          have hE := ite_f hE c_3
          refine lv_aload_n X.1 X.2.1 dX7_append_26 rfl (lv_at hl 1 rfl) ?_
          refine g7_1 X I (k := 1) (by decide) rfl lf_X7_19 dX7_append_27 ?_
          refine lv_aload_n X.1 X.2.1 dX7_append_30 rfl (lv_at hl 1 rfl) ?_
          refine g7_0 X I (k := 1) (by decide) rfl lf_X7_9 dX7_append_31 ?_
          refine r_alen X I (k := 2) (n := 240) (by decide) rfl (v := 240) rfl dX7_append_34 ?_
          refine lv_icmp_ge (tgt := 58) X.1 X.2.1 dX7_append_35 (by decide) (fun c_4 => ?_) (fun c_4 => ?_)
          · skip
            have hE := ite_t hE c_4
            refine lv_iinc (v := _ + (-8)) (lv' := [(2, .int _), (3, .int _), (0, .ref _), (1, .int _)]) X.1 X.2.1 dX7_append_58 hl (k := 3) rfl rfl (by decide) rfl (fun ls hl => ?_)
            refine lv_goto (tgt := 3) X.1 X.2.1 dX7_append_61 (by decide) ?_
            exact ih _ _ _ _ _ I (lv_sub hl [2, 3, 0] rfl) (Nat.lt_of_lt_of_le (dn_dec8 c_1) (Nat.le_of_lt_succ hm)) (hE.trans (rfl))
          · skip
            have hE := ite_f hE c_4
            refine lv_aload_n X.1 X.2.1 dX7_append_38 rfl (lv_at hl 1 rfl) ?_
            refine g7_0 X I (k := 1) (by decide) rfl lf_X7_9 dX7_append_39 ?_
            refine lv_aload_n X.1 X.2.1 dX7_append_42 rfl (lv_at hl 1 rfl) ?_
            refine g7_1 X I (k := 1) (by decide) rfl lf_X7_19 dX7_append_43 ?_
            refine lv_iload_n X.1 X.2.1 dX7_append_46 rfl (lv_at hl 0 rfl) ?_
            refine r_ast X I (k := 2) (n := 240) (by decide) rfl (vp_g (n := 240) (by decide) c_3 c_4) dX7_append_47 (fun H locs I => ?_)
            refine lv_aload_n X.1 X.2.1 dX7_append_48 rfl (lv_at hl 1 rfl) ?_
            refine lv_dup X.1 X.2.1 dX7_append_49 rfl ?_
            refine g7_1 X I (k := 1) (by decide) rfl lf_X7_19 dX7_append_50 ?_
            refine lv_iconst (v := 1) X.1 X.2.1 dX7_append_53 (by decide) ?_
            refine lv_iadd X.1 X.2.1 dX7_append_54 ?_
            refine p7_1 X I (k := 1) (by decide) rfl lf_X7_19 dX7_append_55 (fun H locs I => ?_)
            refine lv_iinc (v := _ + (-8)) (lv' := [(2, .int _), (3, .int _), (0, .ref _), (1, .int _)]) X.1 X.2.1 dX7_append_58 hl (k := 3) rfl rfl (by decide) rfl (fun ls hl => ?_)
            refine lv_goto (tgt := 3) X.1 X.2.1 dX7_append_61 (by decide) ?_
            exact ih _ _ _ _ _ I (lv_sub hl [2, 3, 0] rfl) (Nat.lt_of_lt_of_le (dn_dec8 c_1) (Nat.le_of_lt_succ hm)) (hE.trans (rfl))
set_option maxHeartbeats 4000000 in
set_option maxRecDepth 100000 in
theorem c7_append (l : Launch) (G : GT) (σ : SI) (τ : SL) (x1 : Int32) : Mc l yX7_append cX7_append 4 none 0 G [.ref (G.2.1 1), .int x1] σ τ (Qv G (Ev (f7_append σ x1) τ)) := by
  refine m_start (by decide +kernel) (Nat.le_of_ble_eq_true rfl) rfl (fun p e s m args below meth c ls X I hl => ?_)
  have hl : lv_has ls 4 [(0, .ref (G.2.1 1)), (1, .int x1)] := hl
  obtain ⟨E, hE⟩ : ∃ E, E = (f7_append σ x1) := ⟨_, rfl⟩
  rw [← hE]
  refine lv_bipush (v := 24) X.1 X.2.1 dX7_append_0 (by decide) ?_
  refine lv_istore_n (lv' := [(2, .int _), (0, .ref _), (1, .int _)]) X.1 X.2.1 dX7_append_2 rfl hl (by decide) rfl (fun ls hl => ?_)
  exact c7_append_c3 X _ _ _ _ _ _ _ _ I (lv_sub hl [1, 2, 0] rfl) (fu1_lt _) (hE.trans (rfl))
noncomputable def f7_cut (σ : SI) (x1 : Int32) : SI := if x1 < (0 : Int32) then σ else (if (σ 1 1) < x1 then σ else (let s0 := sp σ 1 1 x1; s0))
theorem w_f7_cut (σ : SI) (x1 : Int32) (a : Nat) (h0 : a ≠ 1) : (f7_cut σ x1) a = σ a := by
  unfold f7_cut
  exact (fr_ite rfl (fr_ite rfl (sp_n h0)))
set_option maxHeartbeats 4000000 in
set_option maxRecDepth 100000 in
theorem c7_cut (l : Launch) (G : GT) (σ : SI) (τ : SL) (x1 : Int32) : Mc l yX7_cut cX7_cut 2 none 0 G [.ref (G.2.1 1), .int x1] σ τ (Qv G (Ev (f7_cut σ x1) τ)) := by
  refine m_start (by decide +kernel) (Nat.le_of_ble_eq_true rfl) rfl (fun p e s m args below meth c ls X I hl => ?_)
  have hl : lv_has ls 2 [(0, .ref (G.2.1 1)), (1, .int x1)] := hl
  obtain ⟨E, hE⟩ : ∃ E, E = (f7_cut σ x1) := ⟨_, rfl⟩
  rw [← hE]
  refine lv_iload_n X.1 X.2.1 dX7_cut_0 rfl (lv_at hl 1 rfl) ?_
  refine lv_if_lt (tgt := 17) X.1 X.2.1 dX7_cut_1 (by decide) (fun c_1 => ?_) (fun c_1 => ?_)
  · skip
    have hE := ite_t hE c_1
    have h9 := hE
    exact r_vret X I (e_v h9.symm rfl) dX7_cut_17
  · skip
    have hE := ite_f hE c_1
    refine lv_iload_n X.1 X.2.1 dX7_cut_4 rfl (lv_at hl 1 rfl) ?_
    refine lv_aload_n X.1 X.2.1 dX7_cut_5 rfl (lv_at hl 0 rfl) ?_
    refine g7_1 X I (k := 1) (by decide) rfl lf_X7_19 dX7_cut_6 ?_
    refine lv_icmp_gt (tgt := 17) X.1 X.2.1 dX7_cut_9 (by decide) (fun c_2 => ?_) (fun c_2 => ?_)
    · skip
      have hE := ite_t hE c_2
      have h9 := hE
      exact r_vret X I (e_v h9.symm rfl) dX7_cut_17
    · skip
      have hE := ite_f hE c_2
      refine lv_aload_n X.1 X.2.1 dX7_cut_12 rfl (lv_at hl 0 rfl) ?_
      refine lv_iload_n X.1 X.2.1 dX7_cut_13 rfl (lv_at hl 1 rfl) ?_
      refine p7_1 X I (k := 1) (by decide) rfl lf_X7_19 dX7_cut_14 (fun H locs I => ?_)
      have h9 := hE
      exact r_vret X I (e_v h9.symm rfl) dX7_cut_17
noncomputable def f7_failsAtLastDigit (σ : SI) : Bool × SI := let s0 := sp σ 1 3 ((σ 1 2) - (1 : Int32)); (false, s0)
theorem w_f7_failsAtLastDigit (σ : SI) (a : Nat) (h0 : a ≠ 1) : (f7_failsAtLastDigit σ).2 a = σ a := by
  refine fp_to2 ?_
  unfold f7_failsAtLastDigit
  exact (fr_mk21 (sp_n h0))
set_option maxHeartbeats 4000000 in
set_option maxRecDepth 100000 in
theorem c7_failsAtLastDigit (l : Launch) (G : GT) (σ : SI) (τ : SL) : Mc l yX7_failsAtLastDigit cX7_failsAtLastDigit 1 (some .boolean) 0 G [.ref (G.2.1 1)] σ τ (Qi G (Ei (b2i (f7_failsAtLastDigit σ).1) (f7_failsAtLastDigit σ).2 τ)) := by
  refine m_start (by decide +kernel) (Nat.le_of_ble_eq_true rfl) rfl (fun p e s m args below meth c ls X I hl => ?_)
  have hl : lv_has ls 1 [(0, .ref (G.2.1 1))] := hl
  obtain ⟨E, hE⟩ : ∃ E, E = (f7_failsAtLastDigit σ) := ⟨_, rfl⟩
  rw [← hE]
  refine lv_aload_n X.1 X.2.1 dX7_failsAtLastDigit_0 rfl (lv_at hl 0 rfl) ?_
  refine lv_aload_n X.1 X.2.1 dX7_failsAtLastDigit_1 rfl (lv_at hl 0 rfl) ?_
  refine g7_2 X I (k := 1) (by decide) rfl lf_X7_22 dX7_failsAtLastDigit_2 ?_
  refine lv_iconst (v := 1) X.1 X.2.1 dX7_failsAtLastDigit_5 (by decide) ?_
  refine lv_isub X.1 X.2.1 dX7_failsAtLastDigit_6 ?_
  refine p7_3 X I (k := 1) (by decide) rfl lf_X7_15 dX7_failsAtLastDigit_7 (fun H locs I => ?_)
  refine lv_iconst (v := 0) X.1 X.2.1 dX7_failsAtLastDigit_10 (by decide) ?_
  have h9 := hE
  exact r_zret X I rfl (e_i (congrArg b2i (pr_fst (a := false) h9)) (pr_snd h9) rfl) dX7_failsAtLastDigit_11
noncomputable def f7_failsAtEnd (σ : SI) : Bool × SI := let s0 := sp σ 1 3 (σ 1 1); (false, s0)
theorem w_f7_failsAtEnd (σ : SI) (a : Nat) (h0 : a ≠ 1) : (f7_failsAtEnd σ).2 a = σ a := by
  refine fp_to2 ?_
  unfold f7_failsAtEnd
  exact (fr_mk21 (sp_n h0))
set_option maxHeartbeats 4000000 in
set_option maxRecDepth 100000 in
theorem c7_failsAtEnd (l : Launch) (G : GT) (σ : SI) (τ : SL) : Mc l yX7_failsAtEnd cX7_failsAtEnd 1 (some .boolean) 0 G [.ref (G.2.1 1)] σ τ (Qi G (Ei (b2i (f7_failsAtEnd σ).1) (f7_failsAtEnd σ).2 τ)) := by
  refine m_start (by decide +kernel) (Nat.le_of_ble_eq_true rfl) rfl (fun p e s m args below meth c ls X I hl => ?_)
  have hl : lv_has ls 1 [(0, .ref (G.2.1 1))] := hl
  obtain ⟨E, hE⟩ : ∃ E, E = (f7_failsAtEnd σ) := ⟨_, rfl⟩
  rw [← hE]
  refine lv_aload_n X.1 X.2.1 dX7_failsAtEnd_0 rfl (lv_at hl 0 rfl) ?_
  refine lv_aload_n X.1 X.2.1 dX7_failsAtEnd_1 rfl (lv_at hl 0 rfl) ?_
  refine g7_1 X I (k := 1) (by decide) rfl lf_X7_19 dX7_failsAtEnd_2 ?_
  refine p7_3 X I (k := 1) (by decide) rfl lf_X7_15 dX7_failsAtEnd_5 (fun H locs I => ?_)
  refine lv_iconst (v := 0) X.1 X.2.1 dX7_failsAtEnd_8 (by decide) ?_
  have h9 := hE
  exact r_zret X I rfl (e_i (congrArg b2i (pr_fst (a := false) h9)) (pr_snd h9) rfl) dX7_failsAtEnd_9
noncomputable def f7_wrongAt (σ : SI) : Int32 := (σ 1 3)
set_option maxHeartbeats 4000000 in
set_option maxRecDepth 100000 in
theorem c7_wrongAt (l : Launch) (G : GT) (σ : SI) (τ : SL) : Mc l yX7_wrongAt cX7_wrongAt 1 (some .int) 0 G [.ref (G.2.1 1)] σ τ (Qi G (Ei (f7_wrongAt σ) σ τ)) := by
  refine m_start (by decide +kernel) (Nat.le_of_ble_eq_true rfl) rfl (fun p e s m args below meth c ls X I hl => ?_)
  have hl : lv_has ls 1 [(0, .ref (G.2.1 1))] := hl
  obtain ⟨E, hE⟩ : ∃ E, E = (f7_wrongAt σ) := ⟨_, rfl⟩
  rw [← hE]
  refine lv_aload_n X.1 X.2.1 dX7_wrongAt_0 rfl (lv_at hl 0 rfl) ?_
  refine g7_3 X I (k := 1) (by decide) rfl lf_X7_15 dX7_wrongAt_1 ?_
  have h9 := hE
  exact r_iret X I (e_i h9.symm rfl rfl) dX7_wrongAt_4
noncomputable def f8_put (k : Nat) (σ : SI) (x1 : Int32) (x2 : Int32) : SI := let s0 := (f11_setCell (k + 1) 36 σ x1 x2); s0
theorem w_f8_put {k : Nat} (σ : SI) (x1 : Int32) (x2 : Int32) (a : Nat) (h0 : a ≠ (k + 1)) : (f8_put k σ x1 x2) a = σ a := by
  unfold f8_put
  exact (w_f11_setCell _ _ _ a h0)
set_option maxHeartbeats 4000000 in
set_option maxRecDepth 100000 in
theorem c8_put (l : Launch) (G : GT) {k : Nat} (hk : isTown k) (σ : SI) (τ : SL) (x1 : Int32) (x2 : Int32) : Mc l yX8_put cX8_put 3 none 1 G [.ref (G.2.1 k), .int x1, .int x2] σ τ (Qv G (Ev (f8_put k σ x1 x2) τ)) := by
  refine m_start (by decide +kernel) (Nat.le_of_ble_eq_true rfl) rfl (fun p e s m args below meth c ls X I hl => ?_)
  have hl : lv_has ls 3 [(0, .ref (G.2.1 k)), (1, .int x1), (2, .int x2)] := hl
  obtain ⟨E, hE⟩ : ∃ E, E = (f8_put k σ x1 x2) := ⟨_, rfl⟩
  rw [← hE]
  refine lv_aload_n X.1 X.2.1 dX8_put_0 rfl (lv_at hl 0 rfl) ?_
  refine g8_0 X I (k := k) (Nat.lt_of_le_of_lt (Nat.add_le_add_left (show 0 ≤ 2 by decide) k) hk.1) hk.2.1 lf_X8_9 dX8_put_1 ?_
  refine lv_iload_n X.1 X.2.1 dX8_put_4 rfl (lv_at hl 1 rfl) ?_
  refine lv_iload_n X.1 X.2.1 dX8_put_5 rfl (lv_at hl 2 rfl) ?_
  refine r_ev I (r_runN X I pk_X11_setCell (c11_setCell l G (k := (k + 1)) (n := 36) (Nat.lt_of_le_of_lt (Nat.add_le_add_left (show 1 ≤ 2 by decide) k) hk.1) hk.2.2.1 (by decide) _ _ _ _) (by decide +kernel) rfl hl.1 rfl (Nat.le_of_ble_eq_true rfl) dX8_put_6 ⟨Nat.le_of_ble_eq_true rfl, Nat.le_of_ble_eq_true rfl⟩ ⟨Nat.le_refl 0, Nat.le_refl 0⟩) (fun H locs I => ?_)
  have h9 := hE
  exact r_vret X I (e_v h9.symm rfl) dX8_put_9
noncomputable def f8_putUsual_c2 (k : Nat) (x1 : Int32) (x2 : Int32) : Nat → Int32 → SI → SI
  | 0, _, σ => σ
  | fu + 1, v3, σ => if (f11_cellS 3 x1) ≤ v3 then σ else (let s0 := (f8_put k σ (x2 + v3) (f11_cellS 8 ((f11_cellS 4 x1) + v3))); (f8_putUsual_c2 k x1 x2 fu (v3 + 1) s0))
noncomputable def f8_putUsual (k : Nat) (σ : SI) (x1 : Int32) (x2 : Int32) : SI := (f8_putUsual_c2 k x1 x2 (fu1 ((Int32.toInt (f11_cellS 3 x1) - Int32.toInt (0 : Int32)).toNat)) (0 : Int32) σ)
theorem w_f8_putUsual_c2 {k : Nat} (x1 : Int32) (x2 : Int32) (a : Nat) (h0 : a ≠ (k + 1)) : ∀ (fu : Nat) (v3 : Int32) (σ : SI), (f8_putUsual_c2 k x1 x2 fu v3 σ) a = σ a := by
  intro fu
  induction fu with
  | zero => intro v3 σ; exact rfl
  | succ fu ih =>
    intro v3 σ
    unfold f8_putUsual_c2
    exact (fr_ite rfl ((ih _ _).trans (w_f8_put _ _ _ a h0)))
theorem w_f8_putUsual {k : Nat} (σ : SI) (x1 : Int32) (x2 : Int32) (a : Nat) (h0 : a ≠ (k + 1)) : (f8_putUsual k σ x1 x2) a = σ a := by
  unfold f8_putUsual
  exact (w_f8_putUsual_c2 _ _ a h0 _ _ _)
set_option maxHeartbeats 4000000 in
set_option maxRecDepth 100000 in
theorem c8_putUsual_c2 {l : Launch} {p : Program} {e : Env} {s : State} {m : MethodId} {args : Array Value} {below : List Frame} {meth : Method} {c : Code} {G : GT} (X : CX p s m args meth c cX8_putUsual RX8 4 none G) {k : Nat} (hk : isTown k) {E : SI} (τ : SL) (x1 : Int32) (x2 : Int32) : ∀ (fu : Nat) (v3 : Int32) (σ : SI) (H : Heap) (locs : List Loc) (ls : Array Slot), IX G s H locs σ τ → lv_has ls 4 [(0, .ref (G.2.1 k)), (1, .int x1), (2, .int x2), (3, .int v3)] → (Int32.toInt (f11_cellS 3 x1) - Int32.toInt v3).toNat < fu → E = (f8_putUsual_c2 k x1 x2 fu v3 σ) → W p l e (rmN 2) s m args below meth c H locs 0 0 (MQ below ((Qv G (Ev E τ)) s.heap.size) args s 0 0 (AW G s.heap.size)) (F0 m 2 ls []) := by
  intro fu
  induction fu with
  | zero =>
    intro v3 σ H locs ls I hl  hm hE
    exact absurd hm (Nat.not_lt_zero _)
  | succ fu ih =>
    intro v3 σ H locs ls I hl  hm hE
    refine lv_iload_n X.1 X.2.1 dX8_putUsual_2 rfl (lv_at hl 3 rfl) ?_
    refine r_sget X I 3 (by decide) (index := 45) (by decide +kernel) dX8_putUsual_3 ?_
    refine lv_iload_n X.1 X.2.1 dX8_putUsual_6 rfl (lv_at hl 1 rfl) ?_
    refine r_ei I (r_runN X I pk_X11_cell (c11_cellS l G 3 (by decide) _ _ _) (by decide +kernel) rfl hl.1 rfl (Nat.le_of_ble_eq_true rfl) dX8_putUsual_7 ⟨Nat.le_of_ble_eq_true rfl, Nat.le_of_ble_eq_true rfl⟩ ⟨Nat.le_refl 0, Nat.le_refl 0⟩) (fun H locs I => ?_)
    refine lv_icmp_ge (tgt := 41) X.1 X.2.1 dX8_putUsual_10 (by decide) (fun c_1 => ?_) (fun c_1 => ?_)
    · skip
      have hE := ite_t hE c_1
      have h9 := hE
      exact r_vret X I (e_v h9.symm rfl) dX8_putUsual_41
    · skip
      have hE := ite_f hE c_1
      refine lv_aload_n X.1 X.2.1 dX8_putUsual_13 rfl (lv_at hl 0 rfl) ?_
      refine lv_iload_n X.1 X.2.1 dX8_putUsual_14 rfl (lv_at hl 2 rfl) ?_
      refine lv_iload_n X.1 X.2.1 dX8_putUsual_15 rfl (lv_at hl 3 rfl) ?_
      refine lv_iadd X.1 X.2.1 dX8_putUsual_16 ?_
      refine r_sget X I 8 (by decide) (index := 48) (by decide +kernel) dX8_putUsual_17 ?_
      refine r_sget X I 4 (by decide) (index := 51) (by decide +kernel) dX8_putUsual_20 ?_
      refine lv_iload_n X.1 X.2.1 dX8_putUsual_23 rfl (lv_at hl 1 rfl) ?_
      refine r_ei I (r_runN X I pk_X11_cell (c11_cellS l G 4 (by decide) _ _ _) (by decide +kernel) rfl hl.1 rfl (Nat.le_of_ble_eq_true rfl) dX8_putUsual_24 ⟨Nat.le_of_ble_eq_true rfl, Nat.le_of_ble_eq_true rfl⟩ ⟨Nat.le_refl 0, Nat.le_refl 0⟩) (fun H locs I => ?_)
      refine lv_iload_n X.1 X.2.1 dX8_putUsual_27 rfl (lv_at hl 3 rfl) ?_
      refine lv_iadd X.1 X.2.1 dX8_putUsual_28 ?_
      refine r_ei I (r_runN X I pk_X11_cell (c11_cellS l G 8 (by decide) _ _ _) (by decide +kernel) rfl hl.1 rfl (Nat.le_of_ble_eq_true rfl) dX8_putUsual_29 ⟨Nat.le_of_ble_eq_true rfl, Nat.le_of_ble_eq_true rfl⟩ ⟨Nat.le_refl 0, Nat.le_refl 0⟩) (fun H locs I => ?_)
      refine r_ev I (r_runV X I pk_X8_put (c8_put l G (k := k) hk _ _ _ _) lm_X8_22 (Nat.lt_of_le_of_lt (Nat.add_le_add_left (show 0 ≤ 2 by decide) k) hk.1) (cl_8 hk.2.1) rfl rfl rfl hl.1 rfl (Nat.le_of_ble_eq_true rfl) dX8_putUsual_32 ⟨Nat.le_of_ble_eq_true rfl, Nat.le_of_ble_eq_true rfl⟩ ⟨Nat.le_refl 0, Nat.le_refl 0⟩) (fun H locs I => ?_)
      refine lv_iinc (v := _ + 1) (lv' := [(3, .int _), (0, .ref _), (1, .int _), (2, .int _)]) X.1 X.2.1 dX8_putUsual_35 hl (k := 3) rfl rfl (by decide) rfl (fun ls hl => ?_)
      refine lv_goto (tgt := 2) X.1 X.2.1 dX8_putUsual_38 (by decide) ?_
      exact ih _ _ _ _ _ I (lv_sub hl [1, 2, 3, 0] rfl) (Nat.lt_of_lt_of_le (up_dec c_1) (Nat.le_of_lt_succ hm)) (hE.trans (rfl))
set_option maxHeartbeats 4000000 in
set_option maxRecDepth 100000 in
theorem c8_putUsual (l : Launch) (G : GT) {k : Nat} (hk : isTown k) (σ : SI) (τ : SL) (x1 : Int32) (x2 : Int32) : Mc l yX8_putUsual cX8_putUsual 4 none 2 G [.ref (G.2.1 k), .int x1, .int x2] σ τ (Qv G (Ev (f8_putUsual k σ x1 x2) τ)) := by
  refine m_start (by decide +kernel) (Nat.le_of_ble_eq_true rfl) rfl (fun p e s m args below meth c ls X I hl => ?_)
  have hl : lv_has ls 4 [(0, .ref (G.2.1 k)), (1, .int x1), (2, .int x2)] := hl
  obtain ⟨E, hE⟩ : ∃ E, E = (f8_putUsual k σ x1 x2) := ⟨_, rfl⟩
  rw [← hE]
  refine lv_iconst (v := 0) X.1 X.2.1 dX8_putUsual_0 (by decide) ?_
  refine lv_istore_n (lv' := [(3, .int _), (0, .ref _), (1, .int _), (2, .int _)]) X.1 X.2.1 dX8_putUsual_1 rfl hl (by decide) rfl (fun ls hl => ?_)
  exact c8_putUsual_c2 X hk _ _ _ _ _ _ _ _ _ I (lv_sub hl [1, 2, 3, 0] rfl) (fu1_lt _) (hE.trans (rfl))
