noncomputable def f3_readsTruth_c16 (U : SI → Int32 → Bool × SI) (x1 : Int32) (x2 : Bool) : Nat → Int32 → SI → (Bool × SI)
  | 0, _, σ => (false, σ)
  | fu + 1, v3, σ => if (240 : Int32) ≤ v3 then (let r0 := (f7_fails σ); r0) else (let r1 := (f7_peek σ); if r1.1 = (38 : Int32) then (let s2 := (f7_pass r1.2); let r3 := (U s2 x1); if r3.1 = true then (let s4 := (f1_add 8 r3.2 (-38 : Int32)); (f3_readsTruth_c16 U x1 x2 fu (v3 + 1) s4)) else (false, r3.2)) else (true, r1.2))
noncomputable def f3_readsTruth (U : SI → Int32 → Bool × SI) (σ : SI) (x1 : Int32) (x2 : Bool) : Bool × SI := if x2 = true then (f3_readsTruth_c16 U x1 x2 (fu1 ((Int32.toInt (240 : Int32) - Int32.toInt (0 : Int32)).toNat)) (0 : Int32) σ) else (let r5 := (U σ x1); if r5.1 = true then (f3_readsTruth_c16 U x1 x2 (fu1 ((Int32.toInt (240 : Int32) - Int32.toInt (0 : Int32)).toNat)) (0 : Int32) r5.2) else (false, r5.2))
theorem w_f3_readsTruth_c16 {U : SI → Int32 → Bool × SI} (hU : ∀ (σ : SI) (x1 : Int32) (b : Nat), b ≠ 1 → b ≠ 8 → b ≠ 9 → (U σ x1).2 b = σ b) (x1 : Int32) (x2 : Bool) (a : Nat) (h0 : a ≠ 1) (h1 : a ≠ 8) (h2 : a ≠ 9) : ∀ (fu : Nat) (v3 : Int32) (σ : SI), (f3_readsTruth_c16 U x1 x2 fu v3 σ).2 a = σ a := by
  intro fu
  induction fu with
  | zero => intro v3 σ; exact rfl
  | succ fu ih =>
    intro v3 σ
    refine fp_to2 ?_
    unfold f3_readsTruth_c16
    exact (fr_ite2 (w_f7_fails _ a h0) (fr_ite2 (fr_ite2 (fp_of2 (((ih _ _).trans ((w_f1_add _ _ a h2 h1).trans ((hU _ _ a h0 h1 h2).trans ((w_f7_pass _ a h0).trans (w_f7_peek _ a h0))))))) (fr_mk21 ((hU _ _ a h0 h1 h2).trans ((w_f7_pass _ a h0).trans (w_f7_peek _ a h0))))) (fr_mk21 (w_f7_peek _ a h0))))
theorem w_f3_readsTruth {U : SI → Int32 → Bool × SI} (hU : ∀ (σ : SI) (x1 : Int32) (b : Nat), b ≠ 1 → b ≠ 8 → b ≠ 9 → (U σ x1).2 b = σ b) (σ : SI) (x1 : Int32) (x2 : Bool) (a : Nat) (h0 : a ≠ 1) (h1 : a ≠ 8) (h2 : a ≠ 9) : (f3_readsTruth U σ x1 x2).2 a = σ a := by
  refine fp_to2 ?_
  unfold f3_readsTruth
  exact (fr_ite2 (fp_of2 ((w_f3_readsTruth_c16 hU _ _ a h0 h1 h2 _ _ _))) (fr_ite2 (fp_of2 (((w_f3_readsTruth_c16 hU _ _ a h0 h1 h2 _ _ _).trans (hU _ _ a h0 h1 h2)))) (fr_mk21 (hU _ _ a h0 h1 h2))))
set_option maxHeartbeats 4000000 in
set_option maxRecDepth 100000 in
theorem c3_readsTruth_c16 {l : Launch} {p : Program} {e : Env} {s : State} {m : MethodId} {args : Array Value} {below : List Frame} {meth : Method} {c : Code} {G : GT} (X : CX p s m args meth c cX3_readsTruth RX3 4 (some .boolean) G) {U : SI → Int32 → Bool × SI} {D : Nat} (hU : ∀ (σ : SI) (τ : SL) (x1 : Int32), ¬ x1 < 0 → (Int32.toInt 6 - Int32.toInt x1).toNat < D → Mc l yX3_readsUnit cX3_readsUnit 3 (some .boolean) (40 + 3 * D + 1) G [.ref (G.2.1 7), .int x1] σ τ (Qi G (Ei (b2i (U σ x1).1) (U σ x1).2 τ))) {E : Bool × SI} (τ : SL) (x1 : Int32) (x2 : Bool) (hx0 : ¬ x1 < 0) (hx : (Int32.toInt 6 - Int32.toInt x1).toNat < D) : ∀ (fu : Nat) (v3 : Int32) (σ : SI) (H : Heap) (locs : List Loc) (ls : Array Slot), IX G s H locs σ τ → lv_has ls 4 [(0, .ref (G.2.1 7)), (1, .int x1), (2, .int (b2i x2)), (3, .int v3)] → (Int32.toInt (240 : Int32) - Int32.toInt v3).toNat < fu → E = (f3_readsTruth_c16 U x1 x2 fu v3 σ) → W p l e (rmN (40 + 3 * D + 2)) s m args below meth c H locs 0 0 (MQ below ((Qi G (Ei (b2i E.1) E.2 τ)) s.heap.size) args s 0 0 (AW G s.heap.size)) (F0 m 16 ls []) := by
  intro fu
  induction fu with
  | zero =>
    intro v3 σ H locs ls I hl  hm hE
    exact absurd hm (Nat.not_lt_zero _)
  | succ fu ih =>
    intro v3 σ H locs ls I hl  hm hE
    refine lv_iload_n X.1 X.2.1 dX3_readsTruth_16 rfl (lv_at hl 3 rfl) ?_
    refine lv_sipush (v := 240) X.1 X.2.1 dX3_readsTruth_17 (by decide) ?_
    refine lv_icmp_ge (tgt := 69) X.1 X.2.1 dX3_readsTruth_20 (by decide) (fun c_2 => ?_) (fun c_2 => ?_)
    · skip
      have hE := ite_t hE c_2
      refine lv_aload_n X.1 X.2.1 dX3_readsTruth_69 rfl (lv_at hl 0 rfl) ?_
      refine g3_0 X I (k := 7) (by decide) rfl lf_X3_9 dX3_readsTruth_70 ?_
      refine r_ei I (r_runV X I pk_X7_fails (c7_fails l G _ _) lm_X3_46 (by decide) (cl_7 rfl) rfl rfl rfl hl.1 rfl (Nat.le_of_ble_eq_true rfl) dX3_readsTruth_73 (hr_le (by omega) (by decide)) ⟨Nat.le_refl 0, Nat.le_refl 0⟩) (fun H locs I => ?_)
      have h9 := hE
      exact r_zret X I (b2i_nar _) (e_i (congrArg b2i (congrArg Prod.fst h9)).symm (congrArg Prod.snd h9).symm rfl) dX3_readsTruth_76
    · skip
      have hE := ite_f hE c_2
      refine lv_aload_n X.1 X.2.1 dX3_readsTruth_23 rfl (lv_at hl 0 rfl) ?_
      refine g3_0 X I (k := 7) (by decide) rfl lf_X3_9 dX3_readsTruth_24 ?_
      refine r_ei I (r_runV X I pk_X7_peek (c7_peek l G _ _) lm_X3_38 (by decide) (cl_7 rfl) rfl rfl rfl hl.1 rfl (Nat.le_of_ble_eq_true rfl) dX3_readsTruth_27 (hr_le (by omega) (by decide)) ⟨Nat.le_refl 0, Nat.le_refl 0⟩) (fun H locs I => ?_)
      refine lv_bipush (v := 38) X.1 X.2.1 dX3_readsTruth_30 (by decide) ?_
      refine lv_icmp_eq (tgt := 37) X.1 X.2.1 dX3_readsTruth_32 (by decide) (fun c_3 => ?_) (fun c_3 => ?_)
      · skip
        have hE := ite_t hE c_3
        refine lv_aload_n X.1 X.2.1 dX3_readsTruth_37 rfl (lv_at hl 0 rfl) ?_
        refine g3_0 X I (k := 7) (by decide) rfl lf_X3_9 dX3_readsTruth_38 ?_
        refine r_ev I (r_runV X I pk_X7_pass (c7_pass l G _ _) lm_X3_68 (by decide) (cl_7 rfl) rfl rfl rfl hl.1 rfl (Nat.le_of_ble_eq_true rfl) dX3_readsTruth_41 (hr_le (by omega) (by decide)) ⟨Nat.le_refl 0, Nat.le_refl 0⟩) (fun H locs I => ?_)
        refine lv_aload_n X.1 X.2.1 dX3_readsTruth_44 rfl (lv_at hl 0 rfl) ?_
        refine lv_iload_n X.1 X.2.1 dX3_readsTruth_45 rfl (lv_at hl 1 rfl) ?_
        refine r_ei I (r_runV X I pk_X3_readsUnit (hU _ _ _ (hx0) (hx)) lm_X3_71 (by decide) (cl_3 rfl) rfl rfl rfl hl.1 rfl (Nat.le_of_ble_eq_true rfl) dX3_readsTruth_46 (hr_le (by omega) (by decide)) ⟨Nat.le_refl 0, Nat.le_refl 0⟩) (fun H locs I => ?_)
        refine lv_if_ne (tgt := 54) X.1 X.2.1 dX3_readsTruth_49 (by decide) (fun c_4 => ?_) (fun c_4 => ?_)
        · skip
          have hE := ite_t hE (b2i_y c_4)
          refine lv_aload_n X.1 X.2.1 dX3_readsTruth_54 rfl (lv_at hl 0 rfl) ?_
          refine g3_1 X I (k := 7) (by decide) rfl lf_X3_18 dX3_readsTruth_55 ?_
          refine lv_bipush (v := (-38)) X.1 X.2.1 dX3_readsTruth_58 (by decide) ?_
          refine r_ev I (r_runV X I pk_X1_add (c1_add l G (k := 8) ⟨by decide, rfl, rfl⟩ _ _ _) lm_X3_34 (by decide) (cl_1 rfl) rfl rfl rfl hl.1 rfl (Nat.le_of_ble_eq_true rfl) dX3_readsTruth_60 (hr_le (by omega) (by decide)) ⟨Nat.le_refl 0, Nat.le_refl 0⟩) (fun H locs I => ?_)
          refine lv_iinc (v := _ + 1) (lv' := [(3, .int _), (0, .ref _), (1, .int _), (2, .int _)]) X.1 X.2.1 dX3_readsTruth_63 hl (k := 3) rfl rfl (by decide) rfl (fun ls hl => ?_)
          refine lv_goto (tgt := 16) X.1 X.2.1 dX3_readsTruth_66 (by decide) ?_
          exact ih _ _ _ _ _ I (lv_sub hl [1, 2, 3, 0] rfl) (Nat.lt_of_lt_of_le (up_dec c_2) (Nat.le_of_lt_succ hm)) (hE.trans (rfl))
        · skip
          have hE := ite_f hE (b2i_n c_4)
          refine lv_iconst (v := 0) X.1 X.2.1 dX3_readsTruth_52 (by decide) ?_
          have h9 := hE
          exact r_zret X I rfl (e_i (congrArg b2i (pr_fst (a := false) h9)) (pr_snd h9) rfl) dX3_readsTruth_53
      · skip
        have hE := ite_f hE c_3
        refine lv_iconst (v := 1) X.1 X.2.1 dX3_readsTruth_35 (by decide) ?_
        have h9 := hE
        exact r_zret X I rfl (e_i (congrArg b2i (pr_fst (a := true) h9)) (pr_snd h9) rfl) dX3_readsTruth_36
set_option maxHeartbeats 4000000 in
set_option maxRecDepth 100000 in
theorem c3_readsTruth (l : Launch) (G : GT) {U : SI → Int32 → Bool × SI} {D : Nat} (hU : ∀ (σ : SI) (τ : SL) (x1 : Int32), ¬ x1 < 0 → (Int32.toInt 6 - Int32.toInt x1).toNat < D → Mc l yX3_readsUnit cX3_readsUnit 3 (some .boolean) (40 + 3 * D + 1) G [.ref (G.2.1 7), .int x1] σ τ (Qi G (Ei (b2i (U σ x1).1) (U σ x1).2 τ))) (σ : SI) (τ : SL) (x1 : Int32) (x2 : Bool) (hx0 : ¬ x1 < 0) (hx : (Int32.toInt 6 - Int32.toInt x1).toNat < D) : Mc l yX3_readsTruth cX3_readsTruth 4 (some .boolean) (40 + 3 * D + 2) G [.ref (G.2.1 7), .int x1, .int (b2i x2)] σ τ (Qi G (Ei (b2i (f3_readsTruth U σ x1 x2).1) (f3_readsTruth U σ x1 x2).2 τ)) := by
  refine m_start (by decide +kernel) (Nat.le_of_ble_eq_true rfl) rfl (fun p e s m args below meth c ls X I hl => ?_)
  have hl : lv_has ls 4 [(0, .ref (G.2.1 7)), (1, .int x1), (2, .int (b2i x2))] := hl
  obtain ⟨E, hE⟩ : ∃ E, E = (f3_readsTruth U σ x1 x2) := ⟨_, rfl⟩
  rw [← hE]
  refine lv_iload_n X.1 X.2.1 dX3_readsTruth_0 rfl (lv_at hl 2 rfl) ?_
  refine lv_if_ne (tgt := 14) X.1 X.2.1 dX3_readsTruth_1 (by decide) (fun c_1 => ?_) (fun c_1 => ?_)
  · skip
    have hE := ite_t hE (b2i_y c_1)
    refine lv_iconst (v := 0) X.1 X.2.1 dX3_readsTruth_14 (by decide) ?_
    refine lv_istore_n (lv' := [(3, .int _), (0, .ref _), (1, .int _), (2, .int _)]) X.1 X.2.1 dX3_readsTruth_15 rfl hl (by decide) rfl (fun ls hl => ?_)
    exact c3_readsTruth_c16 X hU _ _ _ hx0 hx _ _ _ _ _ _ I (lv_sub hl [1, 2, 3, 0] rfl) (fu1_lt _) (hE.trans (rfl))
  · skip
    have hE := ite_f hE (b2i_n c_1)
    refine lv_aload_n X.1 X.2.1 dX3_readsTruth_4 rfl (lv_at hl 0 rfl) ?_
    refine lv_iload_n X.1 X.2.1 dX3_readsTruth_5 rfl (lv_at hl 1 rfl) ?_
    refine r_ei I (r_runV X I pk_X3_readsUnit (hU _ _ _ (hx0) (hx)) lm_X3_71 (by decide) (cl_3 rfl) rfl rfl rfl hl.1 rfl (Nat.le_of_ble_eq_true rfl) dX3_readsTruth_6 (hr_le (by omega) (by decide)) ⟨Nat.le_refl 0, Nat.le_refl 0⟩) (fun H locs I => ?_)
    refine lv_if_ne (tgt := 14) X.1 X.2.1 dX3_readsTruth_9 (by decide) (fun c_5 => ?_) (fun c_5 => ?_)
    · skip
      have hE := ite_t hE (b2i_y c_5)
      refine lv_iconst (v := 0) X.1 X.2.1 dX3_readsTruth_14 (by decide) ?_
      refine lv_istore_n (lv' := [(3, .int _), (0, .ref _), (1, .int _), (2, .int _)]) X.1 X.2.1 dX3_readsTruth_15 rfl hl (by decide) rfl (fun ls hl => ?_)
      exact c3_readsTruth_c16 X hU _ _ _ hx0 hx _ _ _ _ _ _ I (lv_sub hl [1, 2, 3, 0] rfl) (fu1_lt _) (hE.trans (rfl))
    · skip
      have hE := ite_f hE (b2i_n c_5)
      refine lv_iconst (v := 0) X.1 X.2.1 dX3_readsTruth_12 (by decide) ?_
      have h9 := hE
      exact r_zret X I rfl (e_i (congrArg b2i (pr_fst (a := false) h9)) (pr_snd h9) rfl) dX3_readsTruth_13
noncomputable def f3_readsCondition_c13 (T : SI → Int32 → Bool → Bool × SI) (x1 : Int32) (x2 : Bool) : Nat → Int32 → SI → (Bool × SI)
  | 0, _, σ => (false, σ)
  | fu + 1, v3, σ => if (240 : Int32) ≤ v3 then (let r1 := (f7_fails σ); r1) else (let r2 := (f7_peek σ); if r2.1 = (124 : Int32) then (let s3 := (f7_pass r2.2); let r4 := (T s3 x1 false); if r4.1 = true then (let s5 := (f1_add 8 r4.2 (-124 : Int32)); (f3_readsCondition_c13 T x1 x2 fu (v3 + 1) s5)) else (false, r4.2)) else (true, r2.2))
noncomputable def f3_readsCondition (T : SI → Int32 → Bool → Bool × SI) (σ : SI) (x1 : Int32) (x2 : Bool) : Bool × SI := let r0 := (T σ x1 x2); if r0.1 = true then (f3_readsCondition_c13 T x1 x2 (fu1 ((Int32.toInt (240 : Int32) - Int32.toInt (0 : Int32)).toNat)) (0 : Int32) r0.2) else (false, r0.2)
theorem w_f3_readsCondition_c13 {T : SI → Int32 → Bool → Bool × SI} (hT : ∀ (σ : SI) (x1 : Int32) (x2 : Bool) (b : Nat), b ≠ 1 → b ≠ 8 → b ≠ 9 → (T σ x1 x2).2 b = σ b) (x1 : Int32) (x2 : Bool) (a : Nat) (h0 : a ≠ 1) (h1 : a ≠ 8) (h2 : a ≠ 9) : ∀ (fu : Nat) (v3 : Int32) (σ : SI), (f3_readsCondition_c13 T x1 x2 fu v3 σ).2 a = σ a := by
  intro fu
  induction fu with
  | zero => intro v3 σ; exact rfl
  | succ fu ih =>
    intro v3 σ
    refine fp_to2 ?_
    unfold f3_readsCondition_c13
    exact (fr_ite2 (w_f7_fails _ a h0) (fr_ite2 (fr_ite2 (fp_of2 (((ih _ _).trans ((w_f1_add _ _ a h2 h1).trans ((hT _ _ _ a h0 h1 h2).trans ((w_f7_pass _ a h0).trans (w_f7_peek _ a h0))))))) (fr_mk21 ((hT _ _ _ a h0 h1 h2).trans ((w_f7_pass _ a h0).trans (w_f7_peek _ a h0))))) (fr_mk21 (w_f7_peek _ a h0))))
theorem w_f3_readsCondition {T : SI → Int32 → Bool → Bool × SI} (hT : ∀ (σ : SI) (x1 : Int32) (x2 : Bool) (b : Nat), b ≠ 1 → b ≠ 8 → b ≠ 9 → (T σ x1 x2).2 b = σ b) (σ : SI) (x1 : Int32) (x2 : Bool) (a : Nat) (h0 : a ≠ 1) (h1 : a ≠ 8) (h2 : a ≠ 9) : (f3_readsCondition T σ x1 x2).2 a = σ a := by
  refine fp_to2 ?_
  unfold f3_readsCondition
  exact (fr_ite2 (fp_of2 (((w_f3_readsCondition_c13 hT _ _ a h0 h1 h2 _ _ _).trans (hT _ _ _ a h0 h1 h2)))) (fr_mk21 (hT _ _ _ a h0 h1 h2)))
set_option maxHeartbeats 4000000 in
set_option maxRecDepth 100000 in
theorem c3_readsCondition_c13 {l : Launch} {p : Program} {e : Env} {s : State} {m : MethodId} {args : Array Value} {below : List Frame} {meth : Method} {c : Code} {G : GT} (X : CX p s m args meth c cX3_readsCondition RX3 4 (some .boolean) G) {T : SI → Int32 → Bool → Bool × SI} {D : Nat} (hT : ∀ (σ : SI) (τ : SL) (x1 : Int32) (x2 : Bool), ¬ x1 < 0 → (Int32.toInt 6 - Int32.toInt x1).toNat < D → Mc l yX3_readsTruth cX3_readsTruth 4 (some .boolean) (40 + 3 * D + 2) G [.ref (G.2.1 7), .int x1, .int (b2i x2)] σ τ (Qi G (Ei (b2i (T σ x1 x2).1) (T σ x1 x2).2 τ))) {E : Bool × SI} (τ : SL) (x1 : Int32) (x2 : Bool) (hx0 : ¬ x1 < 0) (hx : (Int32.toInt 6 - Int32.toInt x1).toNat < D) : ∀ (fu : Nat) (v3 : Int32) (σ : SI) (H : Heap) (locs : List Loc) (ls : Array Slot), IX G s H locs σ τ → lv_has ls 4 [(0, .ref (G.2.1 7)), (1, .int x1), (2, .int (b2i x2)), (3, .int v3)] → (Int32.toInt (240 : Int32) - Int32.toInt v3).toNat < fu → E = (f3_readsCondition_c13 T x1 x2 fu v3 σ) → W p l e (rmN (40 + 3 * D + 3)) s m args below meth c H locs 0 0 (MQ below ((Qi G (Ei (b2i E.1) E.2 τ)) s.heap.size) args s 0 0 (AW G s.heap.size)) (F0 m 13 ls []) := by
  intro fu
  induction fu with
  | zero =>
    intro v3 σ H locs ls I hl  hm hE
    exact absurd hm (Nat.not_lt_zero _)
  | succ fu ih =>
    intro v3 σ H locs ls I hl  hm hE
    refine lv_iload_n X.1 X.2.1 dX3_readsCondition_13 rfl (lv_at hl 3 rfl) ?_
    refine lv_sipush (v := 240) X.1 X.2.1 dX3_readsCondition_14 (by decide) ?_
    refine lv_icmp_ge (tgt := 67) X.1 X.2.1 dX3_readsCondition_17 (by decide) (fun c_2 => ?_) (fun c_2 => ?_)
    · skip
      have hE := ite_t hE c_2
      refine lv_aload_n X.1 X.2.1 dX3_readsCondition_67 rfl (lv_at hl 0 rfl) ?_
      refine g3_0 X I (k := 7) (by decide) rfl lf_X3_9 dX3_readsCondition_68 ?_
      refine r_ei I (r_runV X I pk_X7_fails (c7_fails l G _ _) lm_X3_46 (by decide) (cl_7 rfl) rfl rfl rfl hl.1 rfl (Nat.le_of_ble_eq_true rfl) dX3_readsCondition_71 (hr_le (by omega) (by decide)) ⟨Nat.le_refl 0, Nat.le_refl 0⟩) (fun H locs I => ?_)
      have h9 := hE
      exact r_zret X I (b2i_nar _) (e_i (congrArg b2i (congrArg Prod.fst h9)).symm (congrArg Prod.snd h9).symm rfl) dX3_readsCondition_74
    · skip
      have hE := ite_f hE c_2
      refine lv_aload_n X.1 X.2.1 dX3_readsCondition_20 rfl (lv_at hl 0 rfl) ?_
      refine g3_0 X I (k := 7) (by decide) rfl lf_X3_9 dX3_readsCondition_21 ?_
      refine r_ei I (r_runV X I pk_X7_peek (c7_peek l G _ _) lm_X3_38 (by decide) (cl_7 rfl) rfl rfl rfl hl.1 rfl (Nat.le_of_ble_eq_true rfl) dX3_readsCondition_24 (hr_le (by omega) (by decide)) ⟨Nat.le_refl 0, Nat.le_refl 0⟩) (fun H locs I => ?_)
      refine lv_bipush (v := 124) X.1 X.2.1 dX3_readsCondition_27 (by decide) ?_
      refine lv_icmp_eq (tgt := 34) X.1 X.2.1 dX3_readsCondition_29 (by decide) (fun c_3 => ?_) (fun c_3 => ?_)
      · skip
        have hE := ite_t hE c_3
        refine lv_aload_n X.1 X.2.1 dX3_readsCondition_34 rfl (lv_at hl 0 rfl) ?_
        refine g3_0 X I (k := 7) (by decide) rfl lf_X3_9 dX3_readsCondition_35 ?_
        refine r_ev I (r_runV X I pk_X7_pass (c7_pass l G _ _) lm_X3_68 (by decide) (cl_7 rfl) rfl rfl rfl hl.1 rfl (Nat.le_of_ble_eq_true rfl) dX3_readsCondition_38 (hr_le (by omega) (by decide)) ⟨Nat.le_refl 0, Nat.le_refl 0⟩) (fun H locs I => ?_)
        refine lv_aload_n X.1 X.2.1 dX3_readsCondition_41 rfl (lv_at hl 0 rfl) ?_
        refine lv_iload_n X.1 X.2.1 dX3_readsCondition_42 rfl (lv_at hl 1 rfl) ?_
        refine lv_iconst (v := 0) X.1 X.2.1 dX3_readsCondition_43 (by decide) ?_
        refine r_ei I (r_runV X I pk_X3_readsTruth (hT _ _ _ false (hx0) (hx)) lm_X3_65 (by decide) (cl_3 rfl) rfl rfl rfl hl.1 rfl (Nat.le_of_ble_eq_true rfl) dX3_readsCondition_44 (hr_le (by omega) (by decide)) ⟨Nat.le_refl 0, Nat.le_refl 0⟩) (fun H locs I => ?_)
        refine lv_if_ne (tgt := 52) X.1 X.2.1 dX3_readsCondition_47 (by decide) (fun c_4 => ?_) (fun c_4 => ?_)
        · skip
          have hE := ite_t hE (b2i_y c_4)
          refine lv_aload_n X.1 X.2.1 dX3_readsCondition_52 rfl (lv_at hl 0 rfl) ?_
          refine g3_1 X I (k := 7) (by decide) rfl lf_X3_18 dX3_readsCondition_53 ?_
          refine lv_bipush (v := (-124)) X.1 X.2.1 dX3_readsCondition_56 (by decide) ?_
          refine r_ev I (r_runV X I pk_X1_add (c1_add l G (k := 8) ⟨by decide, rfl, rfl⟩ _ _ _) lm_X3_34 (by decide) (cl_1 rfl) rfl rfl rfl hl.1 rfl (Nat.le_of_ble_eq_true rfl) dX3_readsCondition_58 (hr_le (by omega) (by decide)) ⟨Nat.le_refl 0, Nat.le_refl 0⟩) (fun H locs I => ?_)
          refine lv_iinc (v := _ + 1) (lv' := [(3, .int _), (0, .ref _), (1, .int _), (2, .int _)]) X.1 X.2.1 dX3_readsCondition_61 hl (k := 3) rfl rfl (by decide) rfl (fun ls hl => ?_)
          refine lv_goto (tgt := 13) X.1 X.2.1 dX3_readsCondition_64 (by decide) ?_
          exact ih _ _ _ _ _ I (lv_sub hl [1, 2, 3, 0] rfl) (Nat.lt_of_lt_of_le (up_dec c_2) (Nat.le_of_lt_succ hm)) (hE.trans (rfl))
        · skip
          have hE := ite_f hE (b2i_n c_4)
          refine lv_iconst (v := 0) X.1 X.2.1 dX3_readsCondition_50 (by decide) ?_
          have h9 := hE
          exact r_zret X I rfl (e_i (congrArg b2i (pr_fst (a := false) h9)) (pr_snd h9) rfl) dX3_readsCondition_51
      · skip
        have hE := ite_f hE c_3
        refine lv_iconst (v := 1) X.1 X.2.1 dX3_readsCondition_32 (by decide) ?_
        have h9 := hE
        exact r_zret X I rfl (e_i (congrArg b2i (pr_fst (a := true) h9)) (pr_snd h9) rfl) dX3_readsCondition_33
set_option maxHeartbeats 4000000 in
set_option maxRecDepth 100000 in
theorem c3_readsCondition (l : Launch) (G : GT) {T : SI → Int32 → Bool → Bool × SI} {D : Nat} (hT : ∀ (σ : SI) (τ : SL) (x1 : Int32) (x2 : Bool), ¬ x1 < 0 → (Int32.toInt 6 - Int32.toInt x1).toNat < D → Mc l yX3_readsTruth cX3_readsTruth 4 (some .boolean) (40 + 3 * D + 2) G [.ref (G.2.1 7), .int x1, .int (b2i x2)] σ τ (Qi G (Ei (b2i (T σ x1 x2).1) (T σ x1 x2).2 τ))) (σ : SI) (τ : SL) (x1 : Int32) (x2 : Bool) (hx0 : ¬ x1 < 0) (hx : (Int32.toInt 6 - Int32.toInt x1).toNat < D) : Mc l yX3_readsCondition cX3_readsCondition 4 (some .boolean) (40 + 3 * D + 3) G [.ref (G.2.1 7), .int x1, .int (b2i x2)] σ τ (Qi G (Ei (b2i (f3_readsCondition T σ x1 x2).1) (f3_readsCondition T σ x1 x2).2 τ)) := by
  refine m_start (by decide +kernel) (Nat.le_of_ble_eq_true rfl) rfl (fun p e s m args below meth c ls X I hl => ?_)
  have hl : lv_has ls 4 [(0, .ref (G.2.1 7)), (1, .int x1), (2, .int (b2i x2))] := hl
  obtain ⟨E, hE⟩ : ∃ E, E = (f3_readsCondition T σ x1 x2) := ⟨_, rfl⟩
  rw [← hE]
  refine lv_aload_n X.1 X.2.1 dX3_readsCondition_0 rfl (lv_at hl 0 rfl) ?_
  refine lv_iload_n X.1 X.2.1 dX3_readsCondition_1 rfl (lv_at hl 1 rfl) ?_
  refine lv_iload_n X.1 X.2.1 dX3_readsCondition_2 rfl (lv_at hl 2 rfl) ?_
  refine r_ei I (r_runV X I pk_X3_readsTruth (hT _ _ _ _ (hx0) (hx)) lm_X3_65 (by decide) (cl_3 rfl) rfl rfl rfl hl.1 rfl (Nat.le_of_ble_eq_true rfl) dX3_readsCondition_3 (hr_le (by omega) (by decide)) ⟨Nat.le_refl 0, Nat.le_refl 0⟩) (fun H locs I => ?_)
  refine lv_if_ne (tgt := 11) X.1 X.2.1 dX3_readsCondition_6 (by decide) (fun c_1 => ?_) (fun c_1 => ?_)
  · skip
    have hE := ite_t hE (b2i_y c_1)
    refine lv_iconst (v := 0) X.1 X.2.1 dX3_readsCondition_11 (by decide) ?_
    refine lv_istore_n (lv' := [(3, .int _), (0, .ref _), (1, .int _), (2, .int _)]) X.1 X.2.1 dX3_readsCondition_12 rfl hl (by decide) rfl (fun ls hl => ?_)
    exact c3_readsCondition_c13 X hT _ _ _ hx0 hx _ _ _ _ _ _ I (lv_sub hl [1, 2, 3, 0] rfl) (fu1_lt _) (hE.trans (rfl))
  · skip
    have hE := ite_f hE (b2i_n c_1)
    refine lv_iconst (v := 0) X.1 X.2.1 dX3_readsCondition_9 (by decide) ?_
    have h9 := hE
    exact r_zret X I rfl (e_i (congrArg b2i (pr_fst (a := false) h9)) (pr_snd h9) rfl) dX3_readsCondition_10
noncomputable def fUnitD : Nat → SI → Int32 → Bool × SI
  | 0 => fun σ _ => (false, σ)
  | D + 1 => fun σ x => f3_readsUnit (fun σ x b => f3_readsCondition (f3_readsTruth (fUnitD D)) σ x b) (fUnitD D) σ x
theorem cUnitD (l : Launch) (G : GT) : ∀ (D : Nat) (σ : SI) (τ : SL) (x1 : Int32), ¬ x1 < 0 → (Int32.toInt 6 - Int32.toInt x1).toNat < D → Mc l yX3_readsUnit cX3_readsUnit 3 (some .boolean) (40 + 3 * D + 1) G [.ref (G.2.1 7), .int x1] σ τ (Qi G (Ei (b2i (fUnitD D σ x1).1) (fUnitD D σ x1).2 τ))
  | 0, _, _, _, _, h => absurd h (Nat.not_lt_zero _)
  | D + 1, σ, τ, x, h0, h => c3_readsUnit l G (fun σ τ x h0 h => cUnitD l G D σ τ x h0 h) (fun σ τ x b h0 h => c3_readsCondition l G (fun σ τ x b h0 h => c3_readsTruth l G (fun σ τ x h0 h => cUnitD l G D σ τ x h0 h) σ τ x b h0 h) σ τ x b h0 h) σ τ x h0 h
noncomputable def f3_cond (σ : SI) (x : Int32) (b : Bool) : Bool × SI := f3_readsCondition (f3_readsTruth (fUnitD (blk 7))) σ x b
theorem f3_cond_eq (σ : SI) (x : Int32) (b : Bool) : f3_cond σ x b = f3_readsCondition (f3_readsTruth (fUnitD 7)) σ x b := by unfold f3_cond; rw [blk_eq]
theorem c3_cond (l : Launch) (G : GT) (σ : SI) (τ : SL) (x1 : Int32) (x2 : Bool) (hx0 : ¬ x1 < 0) : Mc l yX3_readsCondition cX3_readsCondition 4 (some .boolean) 64 G [.ref (G.2.1 7), .int x1, .int (b2i x2)] σ τ (Qi G (Ei (b2i (f3_cond σ x1 x2).1) (f3_cond σ x1 x2).2 τ)) := by
  rw [f3_cond_eq]
  exact c3_readsCondition (D := 7) (T := f3_readsTruth (fUnitD 7)) l G (fun σ τ x b h0 h => c3_readsTruth (D := 7) l G (fun σ τ x h0 h => cUnitD l G 7 σ τ x h0 h) σ τ x b h0 h) σ τ x1 x2 hx0 (six_lt hx0)
theorem w_fUnitD : ∀ (D : Nat) (σ : SI) (x1 : Int32) (b : Nat), b ≠ 1 → b ≠ 8 → b ≠ 9 → (fUnitD D σ x1).2 b = σ b
  | 0, _, _, _, _, _, _ => rfl
  | D + 1, σ, x, b, h0, h1, h2 => w_f3_readsUnit (fun σ x b h0 h1 h2 => w_fUnitD D σ x b h0 h1 h2) (fun σ x t b h0 h1 h2 => w_f3_readsCondition (fun σ x t b h0 h1 h2 => w_f3_readsTruth (fun σ x b h0 h1 h2 => w_fUnitD D σ x b h0 h1 h2) σ x t b h0 h1 h2) σ x t b h0 h1 h2) σ x b h0 h1 h2
theorem w_f3_cond (σ : SI) (x1 : Int32) (x2 : Bool) (b : Nat) (h0 : b ≠ 1) (h1 : b ≠ 8) (h2 : b ≠ 9) : (f3_cond σ x1 x2).2 b = σ b := by
  rw [f3_cond_eq]
  exact w_f3_readsCondition (fun σ x t b h0 h1 h2 => w_f3_readsTruth (fun σ x b h0 h1 h2 => w_fUnitD 7 σ x b h0 h1 h2) σ x t b h0 h1 h2) σ x1 x2 b h0 h1 h2
