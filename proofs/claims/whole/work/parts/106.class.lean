noncomputable def f3_readsTerm_c12 (A : SI → Int32 → Bool × SI) (x1 : Int32) : Nat → Int32 → SI → (Bool × SI)
  | 0, _, σ => (false, σ)
  | fu + 1, v2, σ => if (240 : Int32) ≤ v2 then (let r1 := (f7_fails σ); r1) else (let r2 := (f7_peek σ); if r2.1 = (42 : Int32) then (let s3 := (f7_pass r2.2); let r4 := (A s3 x1); if r4.1 = true then (let s5 := (f1_add 8 r4.2 (-r2.1)); (f3_readsTerm_c12 A x1 fu (v2 + 1) s5)) else (false, r4.2)) else (if r2.1 = (47 : Int32) then (let s6 := (f7_pass r2.2); let r7 := (A s6 x1); if r7.1 = true then (let s8 := (f1_add 8 r7.2 (-r2.1)); (f3_readsTerm_c12 A x1 fu (v2 + 1) s8)) else (false, r7.2)) else (true, r2.2)))
noncomputable def f3_readsTerm (A : SI → Int32 → Bool × SI) (σ : SI) (x1 : Int32) : Bool × SI := let r0 := (A σ x1); if r0.1 = true then (f3_readsTerm_c12 A x1 (fu1 ((Int32.toInt (240 : Int32) - Int32.toInt (0 : Int32)).toNat)) (0 : Int32) r0.2) else (false, r0.2)
theorem w_f3_readsTerm_c12 {A : SI → Int32 → Bool × SI} (hA : ∀ (σ : SI) (x1 : Int32) (b : Nat), b ≠ 1 → b ≠ 8 → b ≠ 9 → (A σ x1).2 b = σ b) (x1 : Int32) (a : Nat) (h0 : a ≠ 1) (h1 : a ≠ 8) (h2 : a ≠ 9) : ∀ (fu : Nat) (v2 : Int32) (σ : SI), (f3_readsTerm_c12 A x1 fu v2 σ).2 a = σ a := by
  intro fu
  induction fu with
  | zero => intro v2 σ; exact rfl
  | succ fu ih =>
    intro v2 σ
    refine fp_to2 ?_
    unfold f3_readsTerm_c12
    exact (fr_ite2 (w_f7_fails _ a h0) (fr_ite2 (fr_ite2 (fp_of2 (((ih _ _).trans ((w_f1_add _ _ a h2 h1).trans ((hA _ _ a h0 h1 h2).trans ((w_f7_pass _ a h0).trans (w_f7_peek _ a h0))))))) (fr_mk21 ((hA _ _ a h0 h1 h2).trans ((w_f7_pass _ a h0).trans (w_f7_peek _ a h0))))) (fr_ite2 (fr_ite2 (fp_of2 (((ih _ _).trans ((w_f1_add _ _ a h2 h1).trans ((hA _ _ a h0 h1 h2).trans ((w_f7_pass _ a h0).trans (w_f7_peek _ a h0))))))) (fr_mk21 ((hA _ _ a h0 h1 h2).trans ((w_f7_pass _ a h0).trans (w_f7_peek _ a h0))))) (fr_mk21 (w_f7_peek _ a h0)))))
theorem w_f3_readsTerm {A : SI → Int32 → Bool × SI} (hA : ∀ (σ : SI) (x1 : Int32) (b : Nat), b ≠ 1 → b ≠ 8 → b ≠ 9 → (A σ x1).2 b = σ b) (σ : SI) (x1 : Int32) (a : Nat) (h0 : a ≠ 1) (h1 : a ≠ 8) (h2 : a ≠ 9) : (f3_readsTerm A σ x1).2 a = σ a := by
  refine fp_to2 ?_
  unfold f3_readsTerm
  exact (fr_ite2 (fp_of2 (((w_f3_readsTerm_c12 hA _ a h0 h1 h2 _ _ _).trans (hA _ _ a h0 h1 h2)))) (fr_mk21 (hA _ _ a h0 h1 h2)))
set_option maxHeartbeats 4000000 in
set_option maxRecDepth 100000 in
theorem c3_readsTerm_c12 {l : Launch} {p : Program} {e : Env} {s : State} {m : MethodId} {args : Array Value} {below : List Frame} {meth : Method} {c : Code} {G : GT} (X : CX p s m args meth c cX3_readsTerm RX3 4 (some .boolean) G) {A : SI → Int32 → Bool × SI} {D : Nat} (hA : ∀ (σ : SI) (τ : SL) (x1 : Int32), (Int32.toInt 6 - Int32.toInt x1).toNat < D + 1 → Mc l yX3_readsAtom cX3_readsAtom 4 (some .boolean) (10 + 3 * D + 1) G [.ref (G.2.1 7), .int x1] σ τ (Qi G (Ei (b2i (A σ x1).1) (A σ x1).2 τ))) {E : Bool × SI} (τ : SL) (x1 : Int32) (hx : (Int32.toInt 6 - Int32.toInt x1).toNat < D + 1) : ∀ (fu : Nat) (v2 : Int32) (σ : SI) (H : Heap) (locs : List Loc) (ls : Array Slot), IX G s H locs σ τ → lv_has ls 4 [(0, .ref (G.2.1 7)), (1, .int x1), (2, .int v2)] → (Int32.toInt (240 : Int32) - Int32.toInt v2).toNat < fu → E = (f3_readsTerm_c12 A x1 fu v2 σ) → W p l e (rmN (10 + 3 * D + 2)) s m args below meth c H locs 0 0 (MQ below ((Qi G (Ei (b2i E.1) E.2 τ)) s.heap.size) args s 0 0 (AW G s.heap.size)) (F0 m 12 ls []) := by
  intro fu
  induction fu with
  | zero =>
    intro v2 σ H locs ls I hl  hm hE
    exact absurd hm (Nat.not_lt_zero _)
  | succ fu ih =>
    intro v2 σ H locs ls I hl  hm hE
    refine lv_iload_n X.1 X.2.1 dX3_readsTerm_12 rfl (lv_at hl 2 rfl) ?_
    refine lv_sipush (v := 240) X.1 X.2.1 dX3_readsTerm_13 (by decide) ?_
    refine lv_icmp_ge (tgt := 73) X.1 X.2.1 dX3_readsTerm_16 (by decide) (fun c_2 => ?_) (fun c_2 => ?_)
    · skip
      have hE := ite_t hE c_2
      refine lv_aload_n X.1 X.2.1 dX3_readsTerm_73 rfl (lv_at hl 0 rfl) ?_
      refine g3_0 X I (k := 7) (by decide) rfl lf_X3_9 dX3_readsTerm_74 ?_
      refine r_ei I (r_runV X I pk_X7_fails (c7_fails l G _ _) lm_X3_46 (by decide) (cl_7 rfl) rfl rfl rfl hl.1 rfl (Nat.le_of_ble_eq_true rfl) dX3_readsTerm_77 (hr_le (by omega) (by decide)) ⟨Nat.le_refl 0, Nat.le_refl 0⟩) (fun H locs I => ?_)
      have h9 := hE
      exact r_zret X I (b2i_nar _) (e_i (congrArg b2i (congrArg Prod.fst h9)).symm (congrArg Prod.snd h9).symm rfl) dX3_readsTerm_80
    · skip
      have hE := ite_f hE c_2
      refine lv_aload_n X.1 X.2.1 dX3_readsTerm_19 rfl (lv_at hl 0 rfl) ?_
      refine g3_0 X I (k := 7) (by decide) rfl lf_X3_9 dX3_readsTerm_20 ?_
      refine r_ei I (r_runV X I pk_X7_peek (c7_peek l G _ _) lm_X3_38 (by decide) (cl_7 rfl) rfl rfl rfl hl.1 rfl (Nat.le_of_ble_eq_true rfl) dX3_readsTerm_23 (hr_le (by omega) (by decide)) ⟨Nat.le_refl 0, Nat.le_refl 0⟩) (fun H locs I => ?_)
      refine lv_istore_n (lv' := [(3, .int _), (0, .ref _), (1, .int _), (2, .int _)]) X.1 X.2.1 dX3_readsTerm_26 rfl hl (by decide) rfl (fun ls hl => ?_)
      refine lv_iload_n X.1 X.2.1 dX3_readsTerm_27 rfl (lv_at hl 0 rfl) ?_
      refine lv_bipush (v := 42) X.1 X.2.1 dX3_readsTerm_28 (by decide) ?_
      refine lv_icmp_eq (tgt := 41) X.1 X.2.1 dX3_readsTerm_30 (by decide) (fun c_3 => ?_) (fun c_3 => ?_)
      · skip
        have hE := ite_t hE c_3
        refine lv_aload_n X.1 X.2.1 dX3_readsTerm_41 rfl (lv_at hl 1 rfl) ?_
        refine g3_0 X I (k := 7) (by decide) rfl lf_X3_9 dX3_readsTerm_42 ?_
        refine r_ev I (r_runV X I pk_X7_pass (c7_pass l G _ _) lm_X3_68 (by decide) (cl_7 rfl) rfl rfl rfl hl.1 rfl (Nat.le_of_ble_eq_true rfl) dX3_readsTerm_45 (hr_le (by omega) (by decide)) ⟨Nat.le_refl 0, Nat.le_refl 0⟩) (fun H locs I => ?_)
        refine lv_aload_n X.1 X.2.1 dX3_readsTerm_48 rfl (lv_at hl 1 rfl) ?_
        refine lv_iload_n X.1 X.2.1 dX3_readsTerm_49 rfl (lv_at hl 2 rfl) ?_
        refine r_ei I (r_runV X I pk_X3_readsAtom (hA _ _ _ (hx)) lm_X3_77 (by decide) (cl_3 rfl) rfl rfl rfl hl.1 rfl (Nat.le_of_ble_eq_true rfl) dX3_readsTerm_50 (hr_le (by omega) (by decide)) ⟨Nat.le_refl 0, Nat.le_refl 0⟩) (fun H locs I => ?_)
        refine lv_if_ne (tgt := 58) X.1 X.2.1 dX3_readsTerm_53 (by decide) (fun c_4 => ?_) (fun c_4 => ?_)
        · skip
          have hE := ite_t hE (b2i_y c_4)
          refine lv_aload_n X.1 X.2.1 dX3_readsTerm_58 rfl (lv_at hl 1 rfl) ?_
          refine g3_1 X I (k := 7) (by decide) rfl lf_X3_18 dX3_readsTerm_59 ?_
          refine lv_iload_n X.1 X.2.1 dX3_readsTerm_62 rfl (lv_at hl 0 rfl) ?_
          refine lv_ineg X.1 X.2.1 dX3_readsTerm_63 ?_
          refine r_ev I (r_runV X I pk_X1_add (c1_add l G (k := 8) ⟨by decide, rfl, rfl⟩ _ _ _) lm_X3_34 (by decide) (cl_1 rfl) rfl rfl rfl hl.1 rfl (Nat.le_of_ble_eq_true rfl) dX3_readsTerm_64 (hr_le (by omega) (by decide)) ⟨Nat.le_refl 0, Nat.le_refl 0⟩) (fun H locs I => ?_)
          refine lv_iinc (v := _ + 1) (lv' := [(2, .int _), (3, .int _), (0, .ref _), (1, .int _)]) X.1 X.2.1 dX3_readsTerm_67 hl (k := 3) rfl rfl (by decide) rfl (fun ls hl => ?_)
          refine lv_goto (tgt := 12) X.1 X.2.1 dX3_readsTerm_70 (by decide) ?_
          exact ih _ _ _ _ _ I (lv_sub hl [2, 3, 0] rfl) (Nat.lt_of_lt_of_le (up_dec c_2) (Nat.le_of_lt_succ hm)) (hE.trans (rfl))
        · skip
          have hE := ite_f hE (b2i_n c_4)
          refine lv_iconst (v := 0) X.1 X.2.1 dX3_readsTerm_56 (by decide) ?_
          have h9 := hE
          exact r_zret X I rfl (e_i (congrArg b2i (pr_fst (a := false) h9)) (pr_snd h9) rfl) dX3_readsTerm_57
      · skip
        have hE := ite_f hE c_3
        refine lv_iload_n X.1 X.2.1 dX3_readsTerm_33 rfl (lv_at hl 0 rfl) ?_
        refine lv_bipush (v := 47) X.1 X.2.1 dX3_readsTerm_34 (by decide) ?_
        refine lv_icmp_eq (tgt := 41) X.1 X.2.1 dX3_readsTerm_36 (by decide) (fun c_5 => ?_) (fun c_5 => ?_)
        · skip
          have hE := ite_t hE c_5
          refine lv_aload_n X.1 X.2.1 dX3_readsTerm_41 rfl (lv_at hl 1 rfl) ?_
          refine g3_0 X I (k := 7) (by decide) rfl lf_X3_9 dX3_readsTerm_42 ?_
          refine r_ev I (r_runV X I pk_X7_pass (c7_pass l G _ _) lm_X3_68 (by decide) (cl_7 rfl) rfl rfl rfl hl.1 rfl (Nat.le_of_ble_eq_true rfl) dX3_readsTerm_45 (hr_le (by omega) (by decide)) ⟨Nat.le_refl 0, Nat.le_refl 0⟩) (fun H locs I => ?_)
          refine lv_aload_n X.1 X.2.1 dX3_readsTerm_48 rfl (lv_at hl 1 rfl) ?_
          refine lv_iload_n X.1 X.2.1 dX3_readsTerm_49 rfl (lv_at hl 2 rfl) ?_
          refine r_ei I (r_runV X I pk_X3_readsAtom (hA _ _ _ (hx)) lm_X3_77 (by decide) (cl_3 rfl) rfl rfl rfl hl.1 rfl (Nat.le_of_ble_eq_true rfl) dX3_readsTerm_50 (hr_le (by omega) (by decide)) ⟨Nat.le_refl 0, Nat.le_refl 0⟩) (fun H locs I => ?_)
          refine lv_if_ne (tgt := 58) X.1 X.2.1 dX3_readsTerm_53 (by decide) (fun c_6 => ?_) (fun c_6 => ?_)
          · skip
            have hE := ite_t hE (b2i_y c_6)
            refine lv_aload_n X.1 X.2.1 dX3_readsTerm_58 rfl (lv_at hl 1 rfl) ?_
            refine g3_1 X I (k := 7) (by decide) rfl lf_X3_18 dX3_readsTerm_59 ?_
            refine lv_iload_n X.1 X.2.1 dX3_readsTerm_62 rfl (lv_at hl 0 rfl) ?_
            refine lv_ineg X.1 X.2.1 dX3_readsTerm_63 ?_
            refine r_ev I (r_runV X I pk_X1_add (c1_add l G (k := 8) ⟨by decide, rfl, rfl⟩ _ _ _) lm_X3_34 (by decide) (cl_1 rfl) rfl rfl rfl hl.1 rfl (Nat.le_of_ble_eq_true rfl) dX3_readsTerm_64 (hr_le (by omega) (by decide)) ⟨Nat.le_refl 0, Nat.le_refl 0⟩) (fun H locs I => ?_)
            refine lv_iinc (v := _ + 1) (lv' := [(2, .int _), (3, .int _), (0, .ref _), (1, .int _)]) X.1 X.2.1 dX3_readsTerm_67 hl (k := 3) rfl rfl (by decide) rfl (fun ls hl => ?_)
            refine lv_goto (tgt := 12) X.1 X.2.1 dX3_readsTerm_70 (by decide) ?_
            exact ih _ _ _ _ _ I (lv_sub hl [2, 3, 0] rfl) (Nat.lt_of_lt_of_le (up_dec c_2) (Nat.le_of_lt_succ hm)) (hE.trans (rfl))
          · skip
            have hE := ite_f hE (b2i_n c_6)
            refine lv_iconst (v := 0) X.1 X.2.1 dX3_readsTerm_56 (by decide) ?_
            have h9 := hE
            exact r_zret X I rfl (e_i (congrArg b2i (pr_fst (a := false) h9)) (pr_snd h9) rfl) dX3_readsTerm_57
        · skip
          have hE := ite_f hE c_5
          refine lv_iconst (v := 1) X.1 X.2.1 dX3_readsTerm_39 (by decide) ?_
          have h9 := hE
          exact r_zret X I rfl (e_i (congrArg b2i (pr_fst (a := true) h9)) (pr_snd h9) rfl) dX3_readsTerm_40
set_option maxHeartbeats 4000000 in
set_option maxRecDepth 100000 in
theorem c3_readsTerm (l : Launch) (G : GT) {A : SI → Int32 → Bool × SI} {D : Nat} (hA : ∀ (σ : SI) (τ : SL) (x1 : Int32), (Int32.toInt 6 - Int32.toInt x1).toNat < D + 1 → Mc l yX3_readsAtom cX3_readsAtom 4 (some .boolean) (10 + 3 * D + 1) G [.ref (G.2.1 7), .int x1] σ τ (Qi G (Ei (b2i (A σ x1).1) (A σ x1).2 τ))) (σ : SI) (τ : SL) (x1 : Int32) (hx : (Int32.toInt 6 - Int32.toInt x1).toNat < D + 1) : Mc l yX3_readsTerm cX3_readsTerm 4 (some .boolean) (10 + 3 * D + 2) G [.ref (G.2.1 7), .int x1] σ τ (Qi G (Ei (b2i (f3_readsTerm A σ x1).1) (f3_readsTerm A σ x1).2 τ)) := by
  refine m_start (by decide +kernel) (Nat.le_of_ble_eq_true rfl) rfl (fun p e s m args below meth c ls X I hl => ?_)
  have hl : lv_has ls 4 [(0, .ref (G.2.1 7)), (1, .int x1)] := hl
  obtain ⟨E, hE⟩ : ∃ E, E = (f3_readsTerm A σ x1) := ⟨_, rfl⟩
  rw [← hE]
  refine lv_aload_n X.1 X.2.1 dX3_readsTerm_0 rfl (lv_at hl 0 rfl) ?_
  refine lv_iload_n X.1 X.2.1 dX3_readsTerm_1 rfl (lv_at hl 1 rfl) ?_
  refine r_ei I (r_runV X I pk_X3_readsAtom (hA _ _ _ (hx)) lm_X3_77 (by decide) (cl_3 rfl) rfl rfl rfl hl.1 rfl (Nat.le_of_ble_eq_true rfl) dX3_readsTerm_2 (hr_le (by omega) (by decide)) ⟨Nat.le_refl 0, Nat.le_refl 0⟩) (fun H locs I => ?_)
  refine lv_if_ne (tgt := 10) X.1 X.2.1 dX3_readsTerm_5 (by decide) (fun c_1 => ?_) (fun c_1 => ?_)
  · skip
    have hE := ite_t hE (b2i_y c_1)
    refine lv_iconst (v := 0) X.1 X.2.1 dX3_readsTerm_10 (by decide) ?_
    refine lv_istore_n (lv' := [(2, .int _), (0, .ref _), (1, .int _)]) X.1 X.2.1 dX3_readsTerm_11 rfl hl (by decide) rfl (fun ls hl => ?_)
    exact c3_readsTerm_c12 X hA _ _ hx _ _ _ _ _ _ I (lv_sub hl [1, 2, 0] rfl) (fu1_lt _) (hE.trans (rfl))
  · skip
    have hE := ite_f hE (b2i_n c_1)
    refine lv_iconst (v := 0) X.1 X.2.1 dX3_readsTerm_8 (by decide) ?_
    have h9 := hE
    exact r_zret X I rfl (e_i (congrArg b2i (pr_fst (a := false) h9)) (pr_snd h9) rfl) dX3_readsTerm_9
noncomputable def f3_readsSum_c12 (A : SI → Int32 → Bool × SI) (x1 : Int32) : Nat → Int32 → SI → (Bool × SI)
  | 0, _, σ => (false, σ)
  | fu + 1, v2, σ => if (240 : Int32) ≤ v2 then (let r1 := (f7_fails σ); r1) else (let r2 := (f7_peek σ); if r2.1 = (43 : Int32) then (let s3 := (f7_pass r2.2); let r4 := (A s3 x1); if r4.1 = true then (let s5 := (f1_add 8 r4.2 (-r2.1)); (f3_readsSum_c12 A x1 fu (v2 + 1) s5)) else (false, r4.2)) else (if r2.1 = (45 : Int32) then (let s6 := (f7_pass r2.2); let r7 := (A s6 x1); if r7.1 = true then (let s8 := (f1_add 8 r7.2 (-r2.1)); (f3_readsSum_c12 A x1 fu (v2 + 1) s8)) else (false, r7.2)) else (true, r2.2)))
noncomputable def f3_readsSum (A : SI → Int32 → Bool × SI) (σ : SI) (x1 : Int32) : Bool × SI := let r0 := (A σ x1); if r0.1 = true then (f3_readsSum_c12 A x1 (fu1 ((Int32.toInt (240 : Int32) - Int32.toInt (0 : Int32)).toNat)) (0 : Int32) r0.2) else (false, r0.2)
theorem w_f3_readsSum_c12 {A : SI → Int32 → Bool × SI} (hA : ∀ (σ : SI) (x1 : Int32) (b : Nat), b ≠ 1 → b ≠ 8 → b ≠ 9 → (A σ x1).2 b = σ b) (x1 : Int32) (a : Nat) (h0 : a ≠ 1) (h1 : a ≠ 8) (h2 : a ≠ 9) : ∀ (fu : Nat) (v2 : Int32) (σ : SI), (f3_readsSum_c12 A x1 fu v2 σ).2 a = σ a := by
  intro fu
  induction fu with
  | zero => intro v2 σ; exact rfl
  | succ fu ih =>
    intro v2 σ
    refine fp_to2 ?_
    unfold f3_readsSum_c12
    exact (fr_ite2 (w_f7_fails _ a h0) (fr_ite2 (fr_ite2 (fp_of2 (((ih _ _).trans ((w_f1_add _ _ a h2 h1).trans ((hA _ _ a h0 h1 h2).trans ((w_f7_pass _ a h0).trans (w_f7_peek _ a h0))))))) (fr_mk21 ((hA _ _ a h0 h1 h2).trans ((w_f7_pass _ a h0).trans (w_f7_peek _ a h0))))) (fr_ite2 (fr_ite2 (fp_of2 (((ih _ _).trans ((w_f1_add _ _ a h2 h1).trans ((hA _ _ a h0 h1 h2).trans ((w_f7_pass _ a h0).trans (w_f7_peek _ a h0))))))) (fr_mk21 ((hA _ _ a h0 h1 h2).trans ((w_f7_pass _ a h0).trans (w_f7_peek _ a h0))))) (fr_mk21 (w_f7_peek _ a h0)))))
theorem w_f3_readsSum {A : SI → Int32 → Bool × SI} (hA : ∀ (σ : SI) (x1 : Int32) (b : Nat), b ≠ 1 → b ≠ 8 → b ≠ 9 → (A σ x1).2 b = σ b) (σ : SI) (x1 : Int32) (a : Nat) (h0 : a ≠ 1) (h1 : a ≠ 8) (h2 : a ≠ 9) : (f3_readsSum A σ x1).2 a = σ a := by
  refine fp_to2 ?_
  unfold f3_readsSum
  exact (fr_ite2 (fp_of2 (((w_f3_readsSum_c12 hA _ a h0 h1 h2 _ _ _).trans (hA _ _ a h0 h1 h2)))) (fr_mk21 (hA _ _ a h0 h1 h2)))
set_option maxHeartbeats 4000000 in
set_option maxRecDepth 100000 in
theorem c3_readsSum_c12 {l : Launch} {p : Program} {e : Env} {s : State} {m : MethodId} {args : Array Value} {below : List Frame} {meth : Method} {c : Code} {G : GT} (X : CX p s m args meth c cX3_readsSum RX3 4 (some .boolean) G) {A : SI → Int32 → Bool × SI} {D : Nat} (hA : ∀ (σ : SI) (τ : SL) (x1 : Int32), (Int32.toInt 6 - Int32.toInt x1).toNat < D + 1 → Mc l yX3_readsTerm cX3_readsTerm 4 (some .boolean) (10 + 3 * D + 2) G [.ref (G.2.1 7), .int x1] σ τ (Qi G (Ei (b2i (A σ x1).1) (A σ x1).2 τ))) {E : Bool × SI} (τ : SL) (x1 : Int32) (hx : (Int32.toInt 6 - Int32.toInt x1).toNat < D + 1) : ∀ (fu : Nat) (v2 : Int32) (σ : SI) (H : Heap) (locs : List Loc) (ls : Array Slot), IX G s H locs σ τ → lv_has ls 4 [(0, .ref (G.2.1 7)), (1, .int x1), (2, .int v2)] → (Int32.toInt (240 : Int32) - Int32.toInt v2).toNat < fu → E = (f3_readsSum_c12 A x1 fu v2 σ) → W p l e (rmN (10 + 3 * D + 3)) s m args below meth c H locs 0 0 (MQ below ((Qi G (Ei (b2i E.1) E.2 τ)) s.heap.size) args s 0 0 (AW G s.heap.size)) (F0 m 12 ls []) := by
  intro fu
  induction fu with
  | zero =>
    intro v2 σ H locs ls I hl  hm hE
    exact absurd hm (Nat.not_lt_zero _)
  | succ fu ih =>
    intro v2 σ H locs ls I hl  hm hE
    refine lv_iload_n X.1 X.2.1 dX3_readsSum_12 rfl (lv_at hl 2 rfl) ?_
    refine lv_sipush (v := 240) X.1 X.2.1 dX3_readsSum_13 (by decide) ?_
    refine lv_icmp_ge (tgt := 73) X.1 X.2.1 dX3_readsSum_16 (by decide) (fun c_2 => ?_) (fun c_2 => ?_)
    · skip
      have hE := ite_t hE c_2
      refine lv_aload_n X.1 X.2.1 dX3_readsSum_73 rfl (lv_at hl 0 rfl) ?_
      refine g3_0 X I (k := 7) (by decide) rfl lf_X3_9 dX3_readsSum_74 ?_
      refine r_ei I (r_runV X I pk_X7_fails (c7_fails l G _ _) lm_X3_46 (by decide) (cl_7 rfl) rfl rfl rfl hl.1 rfl (Nat.le_of_ble_eq_true rfl) dX3_readsSum_77 (hr_le (by omega) (by decide)) ⟨Nat.le_refl 0, Nat.le_refl 0⟩) (fun H locs I => ?_)
      have h9 := hE
      exact r_zret X I (b2i_nar _) (e_i (congrArg b2i (congrArg Prod.fst h9)).symm (congrArg Prod.snd h9).symm rfl) dX3_readsSum_80
    · skip
      have hE := ite_f hE c_2
      refine lv_aload_n X.1 X.2.1 dX3_readsSum_19 rfl (lv_at hl 0 rfl) ?_
      refine g3_0 X I (k := 7) (by decide) rfl lf_X3_9 dX3_readsSum_20 ?_
      refine r_ei I (r_runV X I pk_X7_peek (c7_peek l G _ _) lm_X3_38 (by decide) (cl_7 rfl) rfl rfl rfl hl.1 rfl (Nat.le_of_ble_eq_true rfl) dX3_readsSum_23 (hr_le (by omega) (by decide)) ⟨Nat.le_refl 0, Nat.le_refl 0⟩) (fun H locs I => ?_)
      refine lv_istore_n (lv' := [(3, .int _), (0, .ref _), (1, .int _), (2, .int _)]) X.1 X.2.1 dX3_readsSum_26 rfl hl (by decide) rfl (fun ls hl => ?_)
      refine lv_iload_n X.1 X.2.1 dX3_readsSum_27 rfl (lv_at hl 0 rfl) ?_
      refine lv_bipush (v := 43) X.1 X.2.1 dX3_readsSum_28 (by decide) ?_
      refine lv_icmp_eq (tgt := 41) X.1 X.2.1 dX3_readsSum_30 (by decide) (fun c_3 => ?_) (fun c_3 => ?_)
      · skip
        have hE := ite_t hE c_3
        refine lv_aload_n X.1 X.2.1 dX3_readsSum_41 rfl (lv_at hl 1 rfl) ?_
        refine g3_0 X I (k := 7) (by decide) rfl lf_X3_9 dX3_readsSum_42 ?_
        refine r_ev I (r_runV X I pk_X7_pass (c7_pass l G _ _) lm_X3_68 (by decide) (cl_7 rfl) rfl rfl rfl hl.1 rfl (Nat.le_of_ble_eq_true rfl) dX3_readsSum_45 (hr_le (by omega) (by decide)) ⟨Nat.le_refl 0, Nat.le_refl 0⟩) (fun H locs I => ?_)
        refine lv_aload_n X.1 X.2.1 dX3_readsSum_48 rfl (lv_at hl 1 rfl) ?_
        refine lv_iload_n X.1 X.2.1 dX3_readsSum_49 rfl (lv_at hl 2 rfl) ?_
        refine r_ei I (r_runV X I pk_X3_readsTerm (hA _ _ _ (hx)) lm_X3_74 (by decide) (cl_3 rfl) rfl rfl rfl hl.1 rfl (Nat.le_of_ble_eq_true rfl) dX3_readsSum_50 (hr_le (by omega) (by decide)) ⟨Nat.le_refl 0, Nat.le_refl 0⟩) (fun H locs I => ?_)
        refine lv_if_ne (tgt := 58) X.1 X.2.1 dX3_readsSum_53 (by decide) (fun c_4 => ?_) (fun c_4 => ?_)
        · skip
          have hE := ite_t hE (b2i_y c_4)
          refine lv_aload_n X.1 X.2.1 dX3_readsSum_58 rfl (lv_at hl 1 rfl) ?_
          refine g3_1 X I (k := 7) (by decide) rfl lf_X3_18 dX3_readsSum_59 ?_
          refine lv_iload_n X.1 X.2.1 dX3_readsSum_62 rfl (lv_at hl 0 rfl) ?_
          refine lv_ineg X.1 X.2.1 dX3_readsSum_63 ?_
          refine r_ev I (r_runV X I pk_X1_add (c1_add l G (k := 8) ⟨by decide, rfl, rfl⟩ _ _ _) lm_X3_34 (by decide) (cl_1 rfl) rfl rfl rfl hl.1 rfl (Nat.le_of_ble_eq_true rfl) dX3_readsSum_64 (hr_le (by omega) (by decide)) ⟨Nat.le_refl 0, Nat.le_refl 0⟩) (fun H locs I => ?_)
          refine lv_iinc (v := _ + 1) (lv' := [(2, .int _), (3, .int _), (0, .ref _), (1, .int _)]) X.1 X.2.1 dX3_readsSum_67 hl (k := 3) rfl rfl (by decide) rfl (fun ls hl => ?_)
          refine lv_goto (tgt := 12) X.1 X.2.1 dX3_readsSum_70 (by decide) ?_
          exact ih _ _ _ _ _ I (lv_sub hl [2, 3, 0] rfl) (Nat.lt_of_lt_of_le (up_dec c_2) (Nat.le_of_lt_succ hm)) (hE.trans (rfl))
        · skip
          have hE := ite_f hE (b2i_n c_4)
          refine lv_iconst (v := 0) X.1 X.2.1 dX3_readsSum_56 (by decide) ?_
          have h9 := hE
          exact r_zret X I rfl (e_i (congrArg b2i (pr_fst (a := false) h9)) (pr_snd h9) rfl) dX3_readsSum_57
      · skip
        have hE := ite_f hE c_3
        refine lv_iload_n X.1 X.2.1 dX3_readsSum_33 rfl (lv_at hl 0 rfl) ?_
        refine lv_bipush (v := 45) X.1 X.2.1 dX3_readsSum_34 (by decide) ?_
        refine lv_icmp_eq (tgt := 41) X.1 X.2.1 dX3_readsSum_36 (by decide) (fun c_5 => ?_) (fun c_5 => ?_)
        · skip
          have hE := ite_t hE c_5
          refine lv_aload_n X.1 X.2.1 dX3_readsSum_41 rfl (lv_at hl 1 rfl) ?_
          refine g3_0 X I (k := 7) (by decide) rfl lf_X3_9 dX3_readsSum_42 ?_
          refine r_ev I (r_runV X I pk_X7_pass (c7_pass l G _ _) lm_X3_68 (by decide) (cl_7 rfl) rfl rfl rfl hl.1 rfl (Nat.le_of_ble_eq_true rfl) dX3_readsSum_45 (hr_le (by omega) (by decide)) ⟨Nat.le_refl 0, Nat.le_refl 0⟩) (fun H locs I => ?_)
          refine lv_aload_n X.1 X.2.1 dX3_readsSum_48 rfl (lv_at hl 1 rfl) ?_
          refine lv_iload_n X.1 X.2.1 dX3_readsSum_49 rfl (lv_at hl 2 rfl) ?_
          refine r_ei I (r_runV X I pk_X3_readsTerm (hA _ _ _ (hx)) lm_X3_74 (by decide) (cl_3 rfl) rfl rfl rfl hl.1 rfl (Nat.le_of_ble_eq_true rfl) dX3_readsSum_50 (hr_le (by omega) (by decide)) ⟨Nat.le_refl 0, Nat.le_refl 0⟩) (fun H locs I => ?_)
          refine lv_if_ne (tgt := 58) X.1 X.2.1 dX3_readsSum_53 (by decide) (fun c_6 => ?_) (fun c_6 => ?_)
          · skip
            have hE := ite_t hE (b2i_y c_6)
            refine lv_aload_n X.1 X.2.1 dX3_readsSum_58 rfl (lv_at hl 1 rfl) ?_
            refine g3_1 X I (k := 7) (by decide) rfl lf_X3_18 dX3_readsSum_59 ?_
            refine lv_iload_n X.1 X.2.1 dX3_readsSum_62 rfl (lv_at hl 0 rfl) ?_
            refine lv_ineg X.1 X.2.1 dX3_readsSum_63 ?_
            refine r_ev I (r_runV X I pk_X1_add (c1_add l G (k := 8) ⟨by decide, rfl, rfl⟩ _ _ _) lm_X3_34 (by decide) (cl_1 rfl) rfl rfl rfl hl.1 rfl (Nat.le_of_ble_eq_true rfl) dX3_readsSum_64 (hr_le (by omega) (by decide)) ⟨Nat.le_refl 0, Nat.le_refl 0⟩) (fun H locs I => ?_)
            refine lv_iinc (v := _ + 1) (lv' := [(2, .int _), (3, .int _), (0, .ref _), (1, .int _)]) X.1 X.2.1 dX3_readsSum_67 hl (k := 3) rfl rfl (by decide) rfl (fun ls hl => ?_)
            refine lv_goto (tgt := 12) X.1 X.2.1 dX3_readsSum_70 (by decide) ?_
            exact ih _ _ _ _ _ I (lv_sub hl [2, 3, 0] rfl) (Nat.lt_of_lt_of_le (up_dec c_2) (Nat.le_of_lt_succ hm)) (hE.trans (rfl))
          · skip
            have hE := ite_f hE (b2i_n c_6)
            refine lv_iconst (v := 0) X.1 X.2.1 dX3_readsSum_56 (by decide) ?_
            have h9 := hE
            exact r_zret X I rfl (e_i (congrArg b2i (pr_fst (a := false) h9)) (pr_snd h9) rfl) dX3_readsSum_57
        · skip
          have hE := ite_f hE c_5
          refine lv_iconst (v := 1) X.1 X.2.1 dX3_readsSum_39 (by decide) ?_
          have h9 := hE
          exact r_zret X I rfl (e_i (congrArg b2i (pr_fst (a := true) h9)) (pr_snd h9) rfl) dX3_readsSum_40
set_option maxHeartbeats 4000000 in
set_option maxRecDepth 100000 in
theorem c3_readsSum (l : Launch) (G : GT) {A : SI → Int32 → Bool × SI} {D : Nat} (hA : ∀ (σ : SI) (τ : SL) (x1 : Int32), (Int32.toInt 6 - Int32.toInt x1).toNat < D + 1 → Mc l yX3_readsTerm cX3_readsTerm 4 (some .boolean) (10 + 3 * D + 2) G [.ref (G.2.1 7), .int x1] σ τ (Qi G (Ei (b2i (A σ x1).1) (A σ x1).2 τ))) (σ : SI) (τ : SL) (x1 : Int32) (hx : (Int32.toInt 6 - Int32.toInt x1).toNat < D + 1) : Mc l yX3_readsSum cX3_readsSum 4 (some .boolean) (10 + 3 * D + 3) G [.ref (G.2.1 7), .int x1] σ τ (Qi G (Ei (b2i (f3_readsSum A σ x1).1) (f3_readsSum A σ x1).2 τ)) := by
  refine m_start (by decide +kernel) (Nat.le_of_ble_eq_true rfl) rfl (fun p e s m args below meth c ls X I hl => ?_)
  have hl : lv_has ls 4 [(0, .ref (G.2.1 7)), (1, .int x1)] := hl
  obtain ⟨E, hE⟩ : ∃ E, E = (f3_readsSum A σ x1) := ⟨_, rfl⟩
  rw [← hE]
  refine lv_aload_n X.1 X.2.1 dX3_readsSum_0 rfl (lv_at hl 0 rfl) ?_
  refine lv_iload_n X.1 X.2.1 dX3_readsSum_1 rfl (lv_at hl 1 rfl) ?_
  refine r_ei I (r_runV X I pk_X3_readsTerm (hA _ _ _ (hx)) lm_X3_74 (by decide) (cl_3 rfl) rfl rfl rfl hl.1 rfl (Nat.le_of_ble_eq_true rfl) dX3_readsSum_2 (hr_le (by omega) (by decide)) ⟨Nat.le_refl 0, Nat.le_refl 0⟩) (fun H locs I => ?_)
  refine lv_if_ne (tgt := 10) X.1 X.2.1 dX3_readsSum_5 (by decide) (fun c_1 => ?_) (fun c_1 => ?_)
  · skip
    have hE := ite_t hE (b2i_y c_1)
    refine lv_iconst (v := 0) X.1 X.2.1 dX3_readsSum_10 (by decide) ?_
    refine lv_istore_n (lv' := [(2, .int _), (0, .ref _), (1, .int _)]) X.1 X.2.1 dX3_readsSum_11 rfl hl (by decide) rfl (fun ls hl => ?_)
    exact c3_readsSum_c12 X hA _ _ hx _ _ _ _ _ _ I (lv_sub hl [1, 2, 0] rfl) (fu1_lt _) (hE.trans (rfl))
  · skip
    have hE := ite_f hE (b2i_n c_1)
    refine lv_iconst (v := 0) X.1 X.2.1 dX3_readsSum_8 (by decide) ?_
    have h9 := hE
    exact r_zret X I rfl (e_i (congrArg b2i (pr_fst (a := false) h9)) (pr_snd h9) rfl) dX3_readsSum_9
noncomputable def fSumD : Nat → SI → Int32 → Bool × SI
  | 0 => fun σ _ => (false, σ)
  | D + 1 => fun σ x => f3_readsSum (f3_readsTerm (f3_readsAtom (fSumD D))) σ x
theorem cSumD (l : Launch) (G : GT) : ∀ (D : Nat) (σ : SI) (τ : SL) (x1 : Int32), (Int32.toInt 6 - Int32.toInt x1).toNat < D → Mc l yX3_readsSum cX3_readsSum 4 (some .boolean) (10 + 3 * D) G [.ref (G.2.1 7), .int x1] σ τ (Qi G (Ei (b2i (fSumD D σ x1).1) (fSumD D σ x1).2 τ))
  | 0, _, _, _, h => absurd h (Nat.not_lt_zero _)
  | D + 1, σ, τ, x, h => c3_readsSum l G (fun σ τ x h => c3_readsTerm l G (fun σ τ x h => c3_readsAtom l G (fun σ τ x h => cSumD l G D σ τ x h) σ τ x h) σ τ x h) σ τ x h
theorem six_lt {x : Int32} (h : ¬ x < 0) : (Int32.toInt 6 - Int32.toInt x).toNat < 7 := by
  rw [lt_ti] at h
  have h0 : (0 : Int32).toInt = 0 := rfl
  have h6 : (6 : Int32).toInt = 6 := rfl
  omega
noncomputable def f3_sum (σ : SI) (x : Int32) : Bool × SI := fSumD (blk 7) σ x
theorem f3_sum_eq (σ : SI) (x : Int32) : f3_sum σ x = fSumD 7 σ x := by unfold f3_sum; rw [blk_eq]
theorem c3_sum (l : Launch) (G : GT) (σ : SI) (τ : SL) (x1 : Int32) (hx0 : ¬ x1 < 0) : Mc l yX3_readsSum cX3_readsSum 4 (some .boolean) 31 G [.ref (G.2.1 7), .int x1] σ τ (Qi G (Ei (b2i (f3_sum σ x1).1) (f3_sum σ x1).2 τ)) := by rw [f3_sum_eq]; exact cSumD l G 7 σ τ x1 (six_lt hx0)
theorem w_fSumD : ∀ (D : Nat) (σ : SI) (x1 : Int32) (b : Nat), b ≠ 1 → b ≠ 8 → b ≠ 9 → (fSumD D σ x1).2 b = σ b
  | 0, _, _, _, _, _, _ => rfl
  | D + 1, σ, x, b, h0, h1, h2 => w_f3_readsSum (fun σ x b h0 h1 h2 => w_f3_readsTerm (fun σ x b h0 h1 h2 => w_f3_readsAtom (fun σ x b h0 h1 h2 => w_fSumD D σ x b h0 h1 h2) σ x b h0 h1 h2) σ x b h0 h1 h2) σ x b h0 h1 h2
theorem w_f3_sum (σ : SI) (x1 : Int32) (b : Nat) (h0 : b ≠ 1) (h1 : b ≠ 8) (h2 : b ≠ 9) : (f3_sum σ x1).2 b = σ b := by rw [f3_sum_eq]; exact w_fSumD 7 σ x1 b h0 h1 h2
