noncomputable def f12_isRest_c3 (x1 : Int32) (x2 : Int32) (x3 : Int32) (x4 : Int32) : Nat → Int32 → SI → (Bool × SI)
  | 0, _, σ => (false, σ)
  | fu + 1, v5, σ => if (10 : Int32) ≤ v5 then (true, σ) else (let r0 := (f12_gameOf σ x1 v5 x4); let r1 := (f12_gameOf r0.2 x1 x3 x4); if r1.1 < r0.1 then (false, r1.2) else (let r2 := (f12_gameOf r1.2 x2 v5 x3); let r3 := (f12_gameOf r2.2 x2 x4 x3); if r2.1 ≤ r3.1 then (f12_isRest_c3 x1 x2 x3 x4 fu (v5 + 1) r3.2) else (false, r3.2)))
noncomputable def o12_isRest_c3 (x1 : Int32) (x2 : Int32) (x3 : Int32) (x4 : Int32) : Nat → Int32 → SI → Prop
  | 0, _, _ => True
  | fu + 1, v5, σ => if (10 : Int32) ≤ v5 then True else ((o12_gameOf σ x1 v5 x4) ∧ (let r0 := (f12_gameOf σ x1 v5 x4); (o12_gameOf r0.2 x1 x3 x4) ∧ (let r1 := (f12_gameOf r0.2 x1 x3 x4); if r1.1 < r0.1 then True else ((o12_gameOf r1.2 x2 v5 x3) ∧ (let r2 := (f12_gameOf r1.2 x2 v5 x3); (o12_gameOf r2.2 x2 x4 x3) ∧ (let r3 := (f12_gameOf r2.2 x2 x4 x3); if r2.1 ≤ r3.1 then (o12_isRest_c3 x1 x2 x3 x4 fu (v5 + 1) r3.2) else True))))))
noncomputable def f12_isRest (σ : SI) (x1 : Int32) (x2 : Int32) (x3 : Int32) (x4 : Int32) : Bool × SI := (f12_isRest_c3 x1 x2 x3 x4 (fu1 ((Int32.toInt (10 : Int32) - Int32.toInt (0 : Int32)).toNat)) (0 : Int32) σ)
noncomputable def o12_isRest (σ : SI) (x1 : Int32) (x2 : Int32) (x3 : Int32) (x4 : Int32) : Prop := (o12_isRest_c3 x1 x2 x3 x4 (fu1 ((Int32.toInt (10 : Int32) - Int32.toInt (0 : Int32)).toNat)) (0 : Int32) σ)
theorem w_f12_isRest_c3 (x1 : Int32) (x2 : Int32) (x3 : Int32) (x4 : Int32) (a : Nat) (h0 : a ≠ 132) (h1 : a ≠ 133) : ∀ (fu : Nat) (v5 : Int32) (σ : SI), (f12_isRest_c3 x1 x2 x3 x4 fu v5 σ).2 a = σ a := by
  intro fu
  induction fu with
  | zero => intro v5 σ; exact rfl
  | succ fu ih =>
    intro v5 σ
    refine fp_to2 ?_
    unfold f12_isRest_c3
    exact (fr_ite2 (fr_mk21 rfl) (fr_ite2 (fr_mk21 ((w_f12_gameOf _ _ _ _ a h0 h1).trans (w_f12_gameOf _ _ _ _ a h0 h1))) (fr_ite2 (fp_of2 (((ih _ _).trans ((w_f12_gameOf _ _ _ _ a h0 h1).trans ((w_f12_gameOf _ _ _ _ a h0 h1).trans ((w_f12_gameOf _ _ _ _ a h0 h1).trans (w_f12_gameOf _ _ _ _ a h0 h1))))))) (fr_mk21 ((w_f12_gameOf _ _ _ _ a h0 h1).trans ((w_f12_gameOf _ _ _ _ a h0 h1).trans ((w_f12_gameOf _ _ _ _ a h0 h1).trans (w_f12_gameOf _ _ _ _ a h0 h1))))))))
theorem w_f12_isRest (σ : SI) (x1 : Int32) (x2 : Int32) (x3 : Int32) (x4 : Int32) (a : Nat) (h0 : a ≠ 132) (h1 : a ≠ 133) : (f12_isRest σ x1 x2 x3 x4).2 a = σ a := by
  refine fp_to2 ?_
  unfold f12_isRest
  exact (fp_of2 ((w_f12_isRest_c3 _ _ _ _ a h0 h1 _ _ _)))
set_option maxHeartbeats 4000000 in
set_option maxRecDepth 100000 in
theorem c12_isRest_c3 {l : Launch} {p : Program} {e : Env} {s : State} {m : MethodId} {args : Array Value} {below : List Frame} {meth : Method} {c : Code} {G : GT} (X : CX p s m args meth c cX12_isRest RX12 6 (some .boolean) G) {E : Bool × SI} (τ : SL) (x1 : Int32) (x2 : Int32) (x3 : Int32) (x4 : Int32) : ∀ (fu : Nat) (v5 : Int32) (σ : SI) (H : Heap) (locs : List Loc) (ls : Array Slot), IX G s H locs σ τ → lv_has ls 6 [(0, .ref (G.2.1 123)), (1, .int x1), (2, .int x2), (3, .int x3), (4, .int x4), (5, .int v5)] → (o12_isRest_c3 x1 x2 x3 x4 fu v5 σ) → (Int32.toInt (10 : Int32) - Int32.toInt v5).toNat < fu → E = (f12_isRest_c3 x1 x2 x3 x4 fu v5 σ) → W p l e (rmN 9) s m args below meth c H locs 0 0 (MQ below ((Qi G (Ei (b2i E.1) E.2 τ)) s.heap.size) args s 0 0 (AW G s.heap.size)) (F0 m 3 ls []) := by
  intro fu
  induction fu with
  | zero =>
    intro v5 σ H locs ls I hl  ho hm hE
    exact absurd hm (Nat.not_lt_zero _)
  | succ fu ih =>
    intro v5 σ H locs ls I hl  ho hm hE
    unfold o12_isRest_c3 at ho
    refine lv_iload X.1 X.2.1 dX12_isRest_3 (lv_at hl 5 rfl) ?_
    refine lv_bipush (v := 10) X.1 X.2.1 dX12_isRest_5 (by decide) ?_
    refine lv_icmp_ge (tgt := 57) X.1 X.2.1 dX12_isRest_7 (by decide) (fun c_1 => ?_) (fun c_1 => ?_)
    · skip
      have hE := ite_t hE c_1
      have ho := ite_tP ho c_1
      refine lv_iconst (v := 1) X.1 X.2.1 dX12_isRest_57 (by decide) ?_
      have h9 := hE
      exact r_zret X I rfl (e_i (congrArg b2i (pr_fst (a := true) h9)) (pr_snd h9) rfl) dX12_isRest_58
    · skip
      have hE := ite_f hE c_1
      have ho := ite_fP ho c_1
      refine lv_aload_n X.1 X.2.1 dX12_isRest_10 rfl (lv_at hl 0 rfl) ?_
      refine lv_iload_n X.1 X.2.1 dX12_isRest_11 rfl (lv_at hl 1 rfl) ?_
      refine lv_iload X.1 X.2.1 dX12_isRest_12 (lv_at hl 5 rfl) ?_
      refine lv_iload X.1 X.2.1 dX12_isRest_14 (lv_at hl 4 rfl) ?_
      have ho1 := ho.1
      have ho := ho.2
      refine r_ei I (r_runV X I pk_X12_gameOf (c12_gameOf l G _ _ _ _ _ ho1) lm_X12_419 (by decide) (cl_12 rfl) rfl rfl rfl hl.1 rfl (Nat.le_of_ble_eq_true rfl) dX12_isRest_16 ⟨Nat.le_of_ble_eq_true rfl, Nat.le_of_ble_eq_true rfl⟩ ⟨Nat.le_refl 0, Nat.le_refl 0⟩) (fun H locs I => ?_)
      refine lv_aload_n X.1 X.2.1 dX12_isRest_19 rfl (lv_at hl 0 rfl) ?_
      refine lv_iload_n X.1 X.2.1 dX12_isRest_20 rfl (lv_at hl 1 rfl) ?_
      refine lv_iload_n X.1 X.2.1 dX12_isRest_21 rfl (lv_at hl 3 rfl) ?_
      refine lv_iload X.1 X.2.1 dX12_isRest_22 (lv_at hl 4 rfl) ?_
      have ho2 := ho.1
      have ho := ho.2
      refine r_ei I (r_runV X I pk_X12_gameOf (c12_gameOf l G _ _ _ _ _ ho2) lm_X12_419 (by decide) (cl_12 rfl) rfl rfl rfl hl.1 rfl (Nat.le_of_ble_eq_true rfl) dX12_isRest_24 ⟨Nat.le_of_ble_eq_true rfl, Nat.le_of_ble_eq_true rfl⟩ ⟨Nat.le_refl 0, Nat.le_refl 0⟩) (fun H locs I => ?_)
      refine lv_icmp_gt (tgt := 49) X.1 X.2.1 dX12_isRest_27 (by decide) (fun c_2 => ?_) (fun c_2 => ?_)
      · skip
        have hE := ite_t hE c_2
        have ho := ite_tP ho c_2
        refine lv_iconst (v := 0) X.1 X.2.1 dX12_isRest_49 (by decide) ?_
        have h9 := hE
        exact r_zret X I rfl (e_i (congrArg b2i (pr_fst (a := false) h9)) (pr_snd h9) rfl) dX12_isRest_50
      · skip
        have hE := ite_f hE c_2
        have ho := ite_fP ho c_2
        refine lv_aload_n X.1 X.2.1 dX12_isRest_30 rfl (lv_at hl 0 rfl) ?_
        refine lv_iload_n X.1 X.2.1 dX12_isRest_31 rfl (lv_at hl 2 rfl) ?_
        refine lv_iload X.1 X.2.1 dX12_isRest_32 (lv_at hl 5 rfl) ?_
        refine lv_iload_n X.1 X.2.1 dX12_isRest_34 rfl (lv_at hl 3 rfl) ?_
        have ho3 := ho.1
        have ho := ho.2
        refine r_ei I (r_runV X I pk_X12_gameOf (c12_gameOf l G _ _ _ _ _ ho3) lm_X12_419 (by decide) (cl_12 rfl) rfl rfl rfl hl.1 rfl (Nat.le_of_ble_eq_true rfl) dX12_isRest_35 ⟨Nat.le_of_ble_eq_true rfl, Nat.le_of_ble_eq_true rfl⟩ ⟨Nat.le_refl 0, Nat.le_refl 0⟩) (fun H locs I => ?_)
        refine lv_aload_n X.1 X.2.1 dX12_isRest_38 rfl (lv_at hl 0 rfl) ?_
        refine lv_iload_n X.1 X.2.1 dX12_isRest_39 rfl (lv_at hl 2 rfl) ?_
        refine lv_iload X.1 X.2.1 dX12_isRest_40 (lv_at hl 4 rfl) ?_
        refine lv_iload_n X.1 X.2.1 dX12_isRest_42 rfl (lv_at hl 3 rfl) ?_
        have ho4 := ho.1
        have ho := ho.2
        refine r_ei I (r_runV X I pk_X12_gameOf (c12_gameOf l G _ _ _ _ _ ho4) lm_X12_419 (by decide) (cl_12 rfl) rfl rfl rfl hl.1 rfl (Nat.le_of_ble_eq_true rfl) dX12_isRest_43 ⟨Nat.le_of_ble_eq_true rfl, Nat.le_of_ble_eq_true rfl⟩ ⟨Nat.le_refl 0, Nat.le_refl 0⟩) (fun H locs I => ?_)
        refine lv_icmp_le (tgt := 51) X.1 X.2.1 dX12_isRest_46 (by decide) (fun c_3 => ?_) (fun c_3 => ?_)
        · skip
          have hE := ite_t hE c_3
          have ho := ite_tP ho c_3
          refine lv_iinc (v := _ + 1) (lv' := [(5, .int _), (0, .ref _), (1, .int _), (2, .int _), (3, .int _), (4, .int _)]) X.1 X.2.1 dX12_isRest_51 hl (k := 5) rfl rfl (by decide) rfl (fun ls hl => ?_)
          refine lv_goto (tgt := 3) X.1 X.2.1 dX12_isRest_54 (by decide) ?_
          exact ih _ _ _ _ _ I (lv_sub hl [1, 2, 3, 4, 5, 0] rfl) ho (Nat.lt_of_lt_of_le (up_dec c_1) (Nat.le_of_lt_succ hm)) (hE.trans (rfl))
        · skip
          have hE := ite_f hE c_3
          have ho := ite_fP ho c_3
          refine lv_iconst (v := 0) X.1 X.2.1 dX12_isRest_49 (by decide) ?_
          have h9 := hE
          exact r_zret X I rfl (e_i (congrArg b2i (pr_fst (a := false) h9)) (pr_snd h9) rfl) dX12_isRest_50
set_option maxHeartbeats 4000000 in
set_option maxRecDepth 100000 in
theorem c12_isRest (l : Launch) (G : GT) (σ : SI) (τ : SL) (x1 : Int32) (x2 : Int32) (x3 : Int32) (x4 : Int32) (ho : o12_isRest σ x1 x2 x3 x4) : Mc l yX12_isRest cX12_isRest 6 (some .boolean) 9 G [.ref (G.2.1 123), .int x1, .int x2, .int x3, .int x4] σ τ (Qi G (Ei (b2i (f12_isRest σ x1 x2 x3 x4).1) (f12_isRest σ x1 x2 x3 x4).2 τ)) := by
  refine m_start (by decide +kernel) (Nat.le_of_ble_eq_true rfl) rfl (fun p e s m args below meth c ls X I hl => ?_)
  have hl : lv_has ls 6 [(0, .ref (G.2.1 123)), (1, .int x1), (2, .int x2), (3, .int x3), (4, .int x4)] := hl
  obtain ⟨E, hE⟩ : ∃ E, E = (f12_isRest σ x1 x2 x3 x4) := ⟨_, rfl⟩
  rw [← hE]
  unfold o12_isRest at ho
  refine lv_iconst (v := 0) X.1 X.2.1 dX12_isRest_0 (by decide) ?_
  refine lv_istore (lv' := [(5, .int _), (0, .ref _), (1, .int _), (2, .int _), (3, .int _), (4, .int _)]) X.1 X.2.1 dX12_isRest_1 hl (by decide) rfl (fun ls hl => ?_)
  exact c12_isRest_c3 X _ _ _ _ _ _ _ _ _ _ _ I (lv_sub hl [1, 2, 3, 4, 5, 0] rfl) ho (fu1_lt _) (hE.trans (rfl))
noncomputable def f12_rests_c22 (x1 : Int32) (x2 : Int32) (x3 : Int32) : Nat → Int32 → Int32 → SI → (Int32 × SI)
  | 0, _, _, σ => (0, σ)
  | fu + 1, v4, v5, σ => if (100 : Int32) ≤ v5 then (if x3 = (-1 : Int32) then (v4, σ) else ((-1 : Int32), σ)) else (let r0 := (f12_isRest σ x1 x2 (v5 / (10 : Int32)) (v5 - v5 / (10 : Int32) * (10 : Int32))); if r0.1 = true then (if v4 = x3 then (v5, r0.2) else (f12_rests_c22 x1 x2 x3 fu (v4 + 1) (v5 + 1) r0.2)) else (f12_rests_c22 x1 x2 x3 fu v4 (v5 + 1) r0.2))
noncomputable def o12_rests_c22 (x1 : Int32) (x2 : Int32) (x3 : Int32) : Nat → Int32 → Int32 → SI → Prop
  | 0, _, _, _ => True
  | fu + 1, v4, v5, σ => if (100 : Int32) ≤ v5 then (if x3 = (-1 : Int32) then True else True) else ((o12_isRest σ x1 x2 (v5 / (10 : Int32)) (v5 - v5 / (10 : Int32) * (10 : Int32))) ∧ (let r0 := (f12_isRest σ x1 x2 (v5 / (10 : Int32)) (v5 - v5 / (10 : Int32) * (10 : Int32))); if r0.1 = true then (if v4 = x3 then True else (o12_rests_c22 x1 x2 x3 fu (v4 + 1) (v5 + 1) r0.2)) else (o12_rests_c22 x1 x2 x3 fu v4 (v5 + 1) r0.2)))
noncomputable def f12_rests (σ : SI) (x1 : Int32) (x2 : Int32) (x3 : Int32) : Int32 × SI := if (f12_areTwo σ x1 x2) = true then (if (-1 : Int32) ≤ x3 then (f12_rests_c22 x1 x2 x3 (fu1 ((Int32.toInt (100 : Int32) - Int32.toInt (0 : Int32)).toNat)) (0 : Int32) (0 : Int32) σ) else ((-1 : Int32), σ)) else ((-1 : Int32), σ)
noncomputable def o12_rests (σ : SI) (x1 : Int32) (x2 : Int32) (x3 : Int32) : Prop := if (f12_areTwo σ x1 x2) = true then (if (-1 : Int32) ≤ x3 then (o12_rests_c22 x1 x2 x3 (fu1 ((Int32.toInt (100 : Int32) - Int32.toInt (0 : Int32)).toNat)) (0 : Int32) (0 : Int32) σ) else True) else True
theorem w_f12_rests_c22 (x1 : Int32) (x2 : Int32) (x3 : Int32) (a : Nat) (h0 : a ≠ 132) (h1 : a ≠ 133) : ∀ (fu : Nat) (v4 : Int32) (v5 : Int32) (σ : SI), (f12_rests_c22 x1 x2 x3 fu v4 v5 σ).2 a = σ a := by
  intro fu
  induction fu with
  | zero => intro v4 v5 σ; exact rfl
  | succ fu ih =>
    intro v4 v5 σ
    refine fp_to2 ?_
    unfold f12_rests_c22
    exact (fr_ite2 (fr_ite2 (fr_mk21 rfl) (fr_mk21 rfl)) (fr_ite2 (fr_ite2 (fr_mk21 (w_f12_isRest _ _ _ _ _ a h0 h1)) (fp_of2 (((ih _ _ _).trans (w_f12_isRest _ _ _ _ _ a h0 h1))))) (fp_of2 (((ih _ _ _).trans (w_f12_isRest _ _ _ _ _ a h0 h1))))))
theorem w_f12_rests (σ : SI) (x1 : Int32) (x2 : Int32) (x3 : Int32) (a : Nat) (h0 : a ≠ 132) (h1 : a ≠ 133) : (f12_rests σ x1 x2 x3).2 a = σ a := by
  refine fp_to2 ?_
  unfold f12_rests
  exact (fr_ite2 (fr_ite2 (fp_of2 ((w_f12_rests_c22 _ _ _ a h0 h1 _ _ _ _))) (fr_mk21 rfl)) (fr_mk21 rfl))
set_option maxHeartbeats 4000000 in
set_option maxRecDepth 100000 in
theorem c12_rests_c22 {l : Launch} {p : Program} {e : Env} {s : State} {m : MethodId} {args : Array Value} {below : List Frame} {meth : Method} {c : Code} {G : GT} (X : CX p s m args meth c cX12_rests RX12 6 (some .int) G) {E : Int32 × SI} (τ : SL) (x1 : Int32) (x2 : Int32) (x3 : Int32) : ∀ (fu : Nat) (v4 : Int32) (v5 : Int32) (σ : SI) (H : Heap) (locs : List Loc) (ls : Array Slot), IX G s H locs σ τ → lv_has ls 6 [(0, .ref (G.2.1 123)), (1, .int x1), (2, .int x2), (3, .int x3), (4, .int v4), (5, .int v5)] → (o12_rests_c22 x1 x2 x3 fu v4 v5 σ) → (Int32.toInt (100 : Int32) - Int32.toInt v5).toNat < fu → E = (f12_rests_c22 x1 x2 x3 fu v4 v5 σ) → W p l e (rmN 10) s m args below meth c H locs 0 0 (MQ below ((Qi G (Ei E.1 E.2 τ)) s.heap.size) args s 0 0 (AW G s.heap.size)) (F0 m 22 ls []) := by
  intro fu
  induction fu with
  | zero =>
    intro v4 v5 σ H locs ls I hl  ho hm hE
    exact absurd hm (Nat.not_lt_zero _)
  | succ fu ih =>
    intro v4 v5 σ H locs ls I hl  ho hm hE
    unfold o12_rests_c22 at ho
    refine lv_iload X.1 X.2.1 dX12_rests_22 (lv_at hl 5 rfl) ?_
    refine lv_bipush (v := 100) X.1 X.2.1 dX12_rests_24 (by decide) ?_
    refine lv_icmp_ge (tgt := 66) X.1 X.2.1 dX12_rests_26 (by decide) (fun c_3 => ?_) (fun c_3 => ?_)
    · skip
      have hE := ite_t hE c_3
      have ho := ite_tP ho c_3
      refine lv_iload_n X.1 X.2.1 dX12_rests_66 rfl (lv_at hl 3 rfl) ?_
      refine lv_iconst (v := (-1)) X.1 X.2.1 dX12_rests_67 (by decide) ?_
      refine lv_icmp_ne (tgt := 76) X.1 X.2.1 dX12_rests_68 (by decide) (fun c_4 => ?_) (fun c_4 => ?_)
      · skip
        have hE := ite_f hE c_4
        have ho := ite_fP ho c_4
        refine lv_iconst (v := (-1)) X.1 X.2.1 dX12_rests_76 (by decide) ?_
        have h9 := hE
        exact r_iret X I (e_i (pr_fst h9) (pr_snd h9) rfl) dX12_rests_77
      · skip
        have hE := ite_t hE c_4
        have ho := ite_tP ho c_4
        refine lv_iload X.1 X.2.1 dX12_rests_71 (lv_at hl 4 rfl) ?_
        refine lv_goto (tgt := 77) X.1 X.2.1 dX12_rests_73 (by decide) ?_
        have h9 := hE
        exact r_iret X I (e_i (pr_fst h9) (pr_snd h9) rfl) dX12_rests_77
    · skip
      have hE := ite_f hE c_3
      have ho := ite_fP ho c_3
      refine lv_aload_n X.1 X.2.1 dX12_rests_29 rfl (lv_at hl 0 rfl) ?_
      refine lv_iload_n X.1 X.2.1 dX12_rests_30 rfl (lv_at hl 1 rfl) ?_
      refine lv_iload_n X.1 X.2.1 dX12_rests_31 rfl (lv_at hl 2 rfl) ?_
      refine lv_iload X.1 X.2.1 dX12_rests_32 (lv_at hl 5 rfl) ?_
      refine lv_bipush (v := 10) X.1 X.2.1 dX12_rests_34 (by decide) ?_
      refine lv_idiv X.1 X.2.1 dX12_rests_36 (by decide) ?_
      refine lv_iload X.1 X.2.1 dX12_rests_37 (lv_at hl 5 rfl) ?_
      refine lv_bipush (v := 10) X.1 X.2.1 dX12_rests_39 (by decide) ?_
      refine lv_irem X.1 X.2.1 dX12_rests_41 (by decide) ?_
      have ho1 := ho.1
      have ho := ho.2
      refine r_ei I (r_runV X I pk_X12_isRest (c12_isRest l G _ _ _ _ _ _ ho1) lm_X12_422 (by decide) (cl_12 rfl) rfl rfl rfl hl.1 rfl (Nat.le_of_ble_eq_true rfl) dX12_rests_42 ⟨Nat.le_of_ble_eq_true rfl, Nat.le_of_ble_eq_true rfl⟩ ⟨Nat.le_refl 0, Nat.le_refl 0⟩) (fun H locs I => ?_)
      refine lv_if_eq (tgt := 60) X.1 X.2.1 dX12_rests_45 (by decide) (fun c_5 => ?_) (fun c_5 => ?_)
      · skip
        have hE := ite_f hE (b2i_n c_5)
        have ho := ite_fP ho (b2i_n c_5)
        refine lv_iinc (v := _ + 1) (lv' := [(5, .int _), (0, .ref _), (1, .int _), (2, .int _), (3, .int _), (4, .int _)]) X.1 X.2.1 dX12_rests_60 hl (k := 5) rfl rfl (by decide) rfl (fun ls hl => ?_)
        refine lv_goto (tgt := 22) X.1 X.2.1 dX12_rests_63 (by decide) ?_
        exact ih _ _ _ _ _ _ I (lv_sub hl [1, 2, 3, 4, 5, 0] rfl) ho (Nat.lt_of_lt_of_le (up_dec c_3) (Nat.le_of_lt_succ hm)) (hE.trans (rfl))
      · skip
        have hE := ite_t hE (b2i_y c_5)
        have ho := ite_tP ho (b2i_y c_5)
        refine lv_iload X.1 X.2.1 dX12_rests_48 (lv_at hl 4 rfl) ?_
        refine lv_iload_n X.1 X.2.1 dX12_rests_50 rfl (lv_at hl 3 rfl) ?_
        refine lv_icmp_ne (tgt := 57) X.1 X.2.1 dX12_rests_51 (by decide) (fun c_6 => ?_) (fun c_6 => ?_)
        · skip
          have hE := ite_f hE c_6
          have ho := ite_fP ho c_6
          refine lv_iinc (v := _ + 1) (lv' := [(4, .int _), (0, .ref _), (1, .int _), (2, .int _), (3, .int _), (5, .int _)]) X.1 X.2.1 dX12_rests_57 hl (k := 4) rfl rfl (by decide) rfl (fun ls hl => ?_)
          refine lv_iinc (v := _ + 1) (lv' := [(5, .int _), (4, .int _), (0, .ref _), (1, .int _), (2, .int _), (3, .int _)]) X.1 X.2.1 dX12_rests_60 hl (k := 5) rfl rfl (by decide) rfl (fun ls hl => ?_)
          refine lv_goto (tgt := 22) X.1 X.2.1 dX12_rests_63 (by decide) ?_
          exact ih _ _ _ _ _ _ I (lv_sub hl [2, 3, 4, 5, 1, 0] rfl) ho (Nat.lt_of_lt_of_le (up_dec c_3) (Nat.le_of_lt_succ hm)) (hE.trans (rfl))
        · skip
          have hE := ite_t hE c_6
          have ho := ite_tP ho c_6
          refine lv_iload X.1 X.2.1 dX12_rests_54 (lv_at hl 5 rfl) ?_
          have h9 := hE
          exact r_iret X I (e_i (pr_fst h9) (pr_snd h9) rfl) dX12_rests_56
set_option maxHeartbeats 4000000 in
set_option maxRecDepth 100000 in
theorem c12_rests (l : Launch) (G : GT) (σ : SI) (τ : SL) (x1 : Int32) (x2 : Int32) (x3 : Int32) (ho : o12_rests σ x1 x2 x3) : Mc l yX12_rests cX12_rests 6 (some .int) 10 G [.ref (G.2.1 123), .int x1, .int x2, .int x3] σ τ (Qi G (Ei (f12_rests σ x1 x2 x3).1 (f12_rests σ x1 x2 x3).2 τ)) := by
  refine m_start (by decide +kernel) (Nat.le_of_ble_eq_true rfl) rfl (fun p e s m args below meth c ls X I hl => ?_)
  have hl : lv_has ls 6 [(0, .ref (G.2.1 123)), (1, .int x1), (2, .int x2), (3, .int x3)] := hl
  obtain ⟨E, hE⟩ : ∃ E, E = (f12_rests σ x1 x2 x3) := ⟨_, rfl⟩
  rw [← hE]
  unfold o12_rests at ho
  refine lv_aload_n X.1 X.2.1 dX12_rests_0 rfl (lv_at hl 0 rfl) ?_
  refine lv_iload_n X.1 X.2.1 dX12_rests_1 rfl (lv_at hl 1 rfl) ?_
  refine lv_iload_n X.1 X.2.1 dX12_rests_2 rfl (lv_at hl 2 rfl) ?_
  refine r_ei I (r_runV X I pk_X12_areTwo (c12_areTwo l G _ _ _ _) lm_X12_415 (by decide) (cl_12 rfl) rfl rfl rfl hl.1 rfl (Nat.le_of_ble_eq_true rfl) dX12_rests_3 ⟨Nat.le_of_ble_eq_true rfl, Nat.le_of_ble_eq_true rfl⟩ ⟨Nat.le_refl 0, Nat.le_refl 0⟩) (fun H locs I => ?_)
  refine lv_if_eq (tgt := 14) X.1 X.2.1 dX12_rests_6 (by decide) (fun c_1 => ?_) (fun c_1 => ?_)
  · skip
    have hE := ite_f hE (b2i_n c_1)
    have ho := ite_fP ho (b2i_n c_1)
    refine lv_iconst (v := (-1)) X.1 X.2.1 dX12_rests_14 (by decide) ?_
    have h9 := hE
    exact r_iret X I (e_i (pr_fst h9) (pr_snd h9) rfl) dX12_rests_15
  · skip
    have hE := ite_t hE (b2i_y c_1)
    have ho := ite_tP ho (b2i_y c_1)
    refine lv_iload_n X.1 X.2.1 dX12_rests_9 rfl (lv_at hl 3 rfl) ?_
    refine lv_iconst (v := (-1)) X.1 X.2.1 dX12_rests_10 (by decide) ?_
    refine lv_icmp_ge (tgt := 16) X.1 X.2.1 dX12_rests_11 (by decide) (fun c_2 => ?_) (fun c_2 => ?_)
    · skip
      have hE := ite_t hE c_2
      have ho := ite_tP ho c_2
      refine lv_iconst (v := 0) X.1 X.2.1 dX12_rests_16 (by decide) ?_
      refine lv_istore (lv' := [(4, .int _), (0, .ref _), (1, .int _), (2, .int _), (3, .int _)]) X.1 X.2.1 dX12_rests_17 hl (by decide) rfl (fun ls hl => ?_)
      refine lv_iconst (v := 0) X.1 X.2.1 dX12_rests_19 (by decide) ?_
      refine lv_istore (lv' := [(5, .int _), (4, .int _), (0, .ref _), (1, .int _), (2, .int _), (3, .int _)]) X.1 X.2.1 dX12_rests_20 hl (by decide) rfl (fun ls hl => ?_)
      exact c12_rests_c22 X _ _ _ _ _ _ _ _ _ _ _ I (lv_sub hl [2, 3, 4, 5, 1, 0] rfl) ho (fu1_lt _) (hE.trans (rfl))
    · skip
      have hE := ite_f hE c_2
      have ho := ite_fP ho c_2
      refine lv_iconst (v := (-1)) X.1 X.2.1 dX12_rests_14 (by decide) ?_
      have h9 := hE
      exact r_iret X I (e_i (pr_fst h9) (pr_snd h9) rfl) dX12_rests_15
noncomputable def f12_rivalAt_c7 (σ : SI) (x1 : Int32) : Nat → Int32 → Int32 → Int32 → Int32
  | 0, _, _, _ => 0
  | fu + 1, v2, v3, v4 => if (σ 123 25) ≤ v4 then (-1 : Int32) else (if (σ 140 (Int32.toNatClampNeg ((0 : Int32) + v4))) = (0 : Int32) then (if v4 = x1 then (v2 + (f12_stepsTo σ v3 v4)) else (f12_rivalAt_c7 σ x1 fu ((v2 + (f12_stepsTo σ v3 v4)) + 2) v4 (v4 + 1))) else (f12_rivalAt_c7 σ x1 fu v2 v3 (v4 + 1)))
noncomputable def o12_rivalAt_c7 (σ : SI) (x1 : Int32) : Nat → Int32 → Int32 → Int32 → Prop
  | 0, _, _, _ => True
  | fu + 1, v2, v3, v4 => if (σ 123 25) ≤ v4 then True else ((vp_in ((0 : Int32) + v4) 255) ∧ (if (σ 140 (Int32.toNatClampNeg ((0 : Int32) + v4))) = (0 : Int32) then ((o12_stepsTo σ v3 v4) ∧ (if v4 = x1 then True else (o12_rivalAt_c7 σ x1 fu ((v2 + (f12_stepsTo σ v3 v4)) + 2) v4 (v4 + 1)))) else (o12_rivalAt_c7 σ x1 fu v2 v3 (v4 + 1))))
noncomputable def f12_rivalAt (σ : SI) (x1 : Int32) : Int32 := (f12_rivalAt_c7 σ x1 (fu1 ((Int32.toInt (σ 123 25) - Int32.toInt (0 : Int32)).toNat)) (0 : Int32) (-1 : Int32) (0 : Int32))
noncomputable def o12_rivalAt (σ : SI) (x1 : Int32) : Prop := (o12_rivalAt_c7 σ x1 (fu1 ((Int32.toInt (σ 123 25) - Int32.toInt (0 : Int32)).toNat)) (0 : Int32) (-1 : Int32) (0 : Int32))
set_option maxHeartbeats 4000000 in
set_option maxRecDepth 100000 in
theorem c12_rivalAt_c7 {l : Launch} {p : Program} {e : Env} {s : State} {m : MethodId} {args : Array Value} {below : List Frame} {meth : Method} {c : Code} {G : GT} (X : CX p s m args meth c cX12_rivalAt RX12 5 (some .int) G) {E : Int32} (σ : SI) (τ : SL) (x1 : Int32) : ∀ (fu : Nat) (v2 : Int32) (v3 : Int32) (v4 : Int32) (H : Heap) (locs : List Loc) (ls : Array Slot), IX G s H locs σ τ → lv_has ls 5 [(0, .ref (G.2.1 123)), (1, .int x1), (2, .int v2), (3, .int v3), (4, .int v4)] → (o12_rivalAt_c7 σ x1 fu v2 v3 v4) → (Int32.toInt (σ 123 25) - Int32.toInt v4).toNat < fu → E = (f12_rivalAt_c7 σ x1 fu v2 v3 v4) → W p l e (rmN 2) s m args below meth c H locs 0 0 (MQ below ((Qi G (Ei E σ τ)) s.heap.size) args s 0 0 (AW G s.heap.size)) (F0 m 7 ls []) := by
  intro fu
  induction fu with
  | zero =>
    intro v2 v3 v4 H locs ls I hl  ho hm hE
    exact absurd hm (Nat.not_lt_zero _)
  | succ fu ih =>
    intro v2 v3 v4 H locs ls I hl  ho hm hE
    unfold o12_rivalAt_c7 at ho
    refine lv_iload X.1 X.2.1 dX12_rivalAt_7 (lv_at hl 4 rfl) ?_
    refine lv_aload_n X.1 X.2.1 dX12_rivalAt_9 rfl (lv_at hl 0 rfl) ?_
    refine g12_25 X I (k := 123) (by decide) rfl lf_X12_264 dX12_rivalAt_10 ?_
    refine lv_icmp_ge (tgt := 58) X.1 X.2.1 dX12_rivalAt_13 (by decide) (fun c_1 => ?_) (fun c_1 => ?_)
    · skip
      have hE := ite_t hE c_1
      have ho := ite_tP ho c_1
      refine lv_iconst (v := (-1)) X.1 X.2.1 dX12_rivalAt_58 (by decide) ?_
      have h9 := hE
      exact r_iret X I (e_i h9.symm rfl rfl) dX12_rivalAt_59
    · skip
      have hE := ite_f hE c_1
      have ho := ite_fP ho c_1
      refine lv_aload_n X.1 X.2.1 dX12_rivalAt_16 rfl (lv_at hl 0 rfl) ?_
      refine g12_27 X I (k := 123) (by decide) rfl lf_X12_58 dX12_rivalAt_17 ?_
      refine lv_iconst (v := 0) X.1 X.2.1 dX12_rivalAt_20 (by decide) ?_
      refine lv_iload X.1 X.2.1 dX12_rivalAt_21 (lv_at hl 4 rfl) ?_
      refine lv_iadd X.1 X.2.1 dX12_rivalAt_23 ?_
      have ho1 := ho.1
      have ho := ho.2
      refine r_ald X I (k := 140) (n := 255) (by decide) rfl ho1 dX12_rivalAt_24 ?_
      refine lv_if_ne (tgt := 52) X.1 X.2.1 dX12_rivalAt_25 (by decide) (fun c_2 => ?_) (fun c_2 => ?_)
      · skip
        have hE := ite_f hE c_2
        have ho := ite_fP ho c_2
        refine lv_iinc (v := _ + 1) (lv' := [(4, .int _), (0, .ref _), (1, .int _), (2, .int _), (3, .int _)]) X.1 X.2.1 dX12_rivalAt_52 hl (k := 4) rfl rfl (by decide) rfl (fun ls hl => ?_)
        refine lv_goto (tgt := 7) X.1 X.2.1 dX12_rivalAt_55 (by decide) ?_
        exact ih _ _ _ _ _ _ I (lv_sub hl [1, 2, 3, 4, 0] rfl) ho (Nat.lt_of_lt_of_le (up_dec c_1) (Nat.le_of_lt_succ hm)) (hE.trans (rfl))
      · skip
        have hE := ite_t hE c_2
        have ho := ite_tP ho c_2
        refine lv_iload_n X.1 X.2.1 dX12_rivalAt_28 rfl (lv_at hl 2 rfl) ?_
        refine lv_aload_n X.1 X.2.1 dX12_rivalAt_29 rfl (lv_at hl 0 rfl) ?_
        refine lv_iload_n X.1 X.2.1 dX12_rivalAt_30 rfl (lv_at hl 3 rfl) ?_
        refine lv_iload X.1 X.2.1 dX12_rivalAt_31 (lv_at hl 4 rfl) ?_
        have ho2 := ho.1
        have ho := ho.2
        refine r_ei I (r_runV X I pk_X12_stepsTo (c12_stepsTo l G _ _ _ _ ho2) lm_X12_305 (by decide) (cl_12 rfl) rfl rfl rfl hl.1 rfl (Nat.le_of_ble_eq_true rfl) dX12_rivalAt_33 ⟨Nat.le_of_ble_eq_true rfl, Nat.le_of_ble_eq_true rfl⟩ ⟨Nat.le_refl 0, Nat.le_refl 0⟩) (fun H locs I => ?_)
        refine lv_iadd X.1 X.2.1 dX12_rivalAt_36 ?_
        refine lv_istore_n (lv' := [(2, .int _), (0, .ref _), (1, .int _), (3, .int _), (4, .int _)]) X.1 X.2.1 dX12_rivalAt_37 rfl hl (by decide) rfl (fun ls hl => ?_)
        refine lv_iload X.1 X.2.1 dX12_rivalAt_38 (lv_at hl 4 rfl) ?_
        refine lv_iload_n X.1 X.2.1 dX12_rivalAt_40 rfl (lv_at hl 2 rfl) ?_
        refine lv_icmp_ne (tgt := 46) X.1 X.2.1 dX12_rivalAt_41 (by decide) (fun c_3 => ?_) (fun c_3 => ?_)
        · skip
          have hE := ite_f hE c_3
          have ho := ite_fP ho c_3
          refine lv_iinc (v := _ + 2) (lv' := [(2, .int _), (0, .ref _), (1, .int _), (3, .int _), (4, .int _)]) X.1 X.2.1 dX12_rivalAt_46 hl (k := 0) rfl rfl (by decide) rfl (fun ls hl => ?_)
          refine lv_iload X.1 X.2.1 dX12_rivalAt_49 (lv_at hl 4 rfl) ?_
          refine lv_istore_n (lv' := [(3, .int _), (2, .int _), (0, .ref _), (1, .int _), (4, .int _)]) X.1 X.2.1 dX12_rivalAt_51 rfl hl (by decide) rfl (fun ls hl => ?_)
          refine lv_iinc (v := _ + 1) (lv' := [(4, .int _), (3, .int _), (2, .int _), (0, .ref _), (1, .int _)]) X.1 X.2.1 dX12_rivalAt_52 hl (k := 4) rfl rfl (by decide) rfl (fun ls hl => ?_)
          refine lv_goto (tgt := 7) X.1 X.2.1 dX12_rivalAt_55 (by decide) ?_
          exact ih _ _ _ _ _ _ I (lv_sub hl [3, 4, 2, 1, 0] rfl) ho (Nat.lt_of_lt_of_le (up_dec c_1) (Nat.le_of_lt_succ hm)) (hE.trans (rfl))
        · skip
          have hE := ite_t hE c_3
          have ho := ite_tP ho c_3
          refine lv_iload_n X.1 X.2.1 dX12_rivalAt_44 rfl (lv_at hl 0 rfl) ?_
          have h9 := hE
          exact r_iret X I (e_i h9.symm rfl rfl) dX12_rivalAt_45
set_option maxHeartbeats 4000000 in
set_option maxRecDepth 100000 in
theorem c12_rivalAt (l : Launch) (G : GT) (σ : SI) (τ : SL) (x1 : Int32) (ho : o12_rivalAt σ x1) : Mc l yX12_rivalAt cX12_rivalAt 5 (some .int) 2 G [.ref (G.2.1 123), .int x1] σ τ (Qi G (Ei (f12_rivalAt σ x1) σ τ)) := by
  refine m_start (by decide +kernel) (Nat.le_of_ble_eq_true rfl) rfl (fun p e s m args below meth c ls X I hl => ?_)
  have hl : lv_has ls 5 [(0, .ref (G.2.1 123)), (1, .int x1)] := hl
  obtain ⟨E, hE⟩ : ∃ E, E = (f12_rivalAt σ x1) := ⟨_, rfl⟩
  rw [← hE]
  unfold o12_rivalAt at ho
  refine lv_iconst (v := 0) X.1 X.2.1 dX12_rivalAt_0 (by decide) ?_
  refine lv_istore_n (lv' := [(2, .int _), (0, .ref _), (1, .int _)]) X.1 X.2.1 dX12_rivalAt_1 rfl hl (by decide) rfl (fun ls hl => ?_)
  refine lv_iconst (v := (-1)) X.1 X.2.1 dX12_rivalAt_2 (by decide) ?_
  refine lv_istore_n (lv' := [(3, .int _), (2, .int _), (0, .ref _), (1, .int _)]) X.1 X.2.1 dX12_rivalAt_3 rfl hl (by decide) rfl (fun ls hl => ?_)
  refine lv_iconst (v := 0) X.1 X.2.1 dX12_rivalAt_4 (by decide) ?_
  refine lv_istore (lv' := [(4, .int _), (3, .int _), (2, .int _), (0, .ref _), (1, .int _)]) X.1 X.2.1 dX12_rivalAt_5 hl (by decide) rfl (fun ls hl => ?_)
  exact c12_rivalAt_c7 X _ _ _ _ _ _ _ _ _ _ I (lv_sub hl [3, 4, 2, 1, 0] rfl) ho (fu1_lt _) (hE.trans (rfl))
