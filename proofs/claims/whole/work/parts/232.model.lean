noncomputable def f12_odds (σ : SI) (x1 : Int32) (x2 : Int32) : Int32 × SI := if (σ 123 25) = (0 : Int32) then ((-1 : Int32), σ) else (if (f12_in x1 (0 : Int32) (7 : Int32)) = true then (if (f12_in x2 (0 : Int32) (100 : Int32)) = true then (let r0 := (f12_layOrder σ false (σ 140 11)); if x1 ≤ r0.1 then (let r1 := (f12_oddsFromR r0.2 (0 : Int32) x1 x2 (1000000000 : Int32)); r1) else ((0 : Int32), r0.2)) else ((-1 : Int32), σ)) else ((-1 : Int32), σ))
noncomputable def o12_odds (σ : SI) (x1 : Int32) (x2 : Int32) : Prop := if (σ 123 25) = (0 : Int32) then True else (if (f12_in x1 (0 : Int32) (7 : Int32)) = true then (if (f12_in x2 (0 : Int32) (100 : Int32)) = true then ((o12_layOrder σ false (σ 140 11)) ∧ (let r0 := (f12_layOrder σ false (σ 140 11)); if x1 ≤ r0.1 then ((o12_oddsFromR r0.2 (0 : Int32) x1 x2 (1000000000 : Int32)) ∧ (let r1 := (f12_oddsFromR r0.2 (0 : Int32) x1 x2 (1000000000 : Int32)); True)) else True)) else True) else True)
theorem w_f12_odds (σ : SI) (x1 : Int32) (x2 : Int32) (a : Nat) (h0 : a ≠ 132) (h1 : a ≠ 133) (h2 : a ≠ 140) (h3 : a ≠ 143) (h4 : a ≠ 144) : (f12_odds σ x1 x2).2 a = σ a := by
  refine fp_to2 ?_
  unfold f12_odds
  exact (fr_ite2 (fr_mk21 rfl) (fr_ite2 (fr_ite2 (fr_ite2 ((w_f12_oddsFromR _ _ _ _ _ a h0 h1 h2 h3).trans (w_f12_layOrder _ _ _ a h4)) (fr_mk21 (w_f12_layOrder _ _ _ a h4))) (fr_mk21 rfl)) (fr_mk21 rfl)))
set_option maxHeartbeats 4000000 in
set_option maxRecDepth 100000 in
theorem c12_odds (l : Launch) (G : GT) (σ : SI) (τ : SL) (x1 : Int32) (x2 : Int32) (ho : o12_odds σ x1 x2) : Mc l yX12_odds cX12_odds 3 (some .int) 50 G [.ref (G.2.1 123), .int x1, .int x2] σ τ (Qi G (Ei (f12_odds σ x1 x2).1 (f12_odds σ x1 x2).2 τ)) := by
  refine m_start (by decide +kernel) (Nat.le_of_ble_eq_true rfl) rfl (fun p e s m args below meth c ls X I hl => ?_)
  have hl : lv_has ls 3 [(0, .ref (G.2.1 123)), (1, .int x1), (2, .int x2)] := hl
  obtain ⟨E, hE⟩ : ∃ E, E = (f12_odds σ x1 x2) := ⟨_, rfl⟩
  rw [← hE]
  unfold o12_odds at ho
  refine lv_aload_n X.1 X.2.1 dX12_odds_0 rfl (lv_at hl 0 rfl) ?_
  refine g12_25 X I (k := 123) (by decide) rfl lf_X12_264 dX12_odds_1 ?_
  refine lv_if_eq (tgt := 27) X.1 X.2.1 dX12_odds_4 (by decide) (fun c_1 => ?_) (fun c_1 => ?_)
  · skip
    have hE := ite_t hE c_1
    have ho := ite_tP ho c_1
    refine lv_iconst (v := (-1)) X.1 X.2.1 dX12_odds_27 (by decide) ?_
    have h9 := hE
    exact r_iret X I (e_i (pr_fst h9) (pr_snd h9) rfl) dX12_odds_28
  · skip
    have hE := ite_f hE c_1
    have ho := ite_fP ho c_1
    refine lv_iload_n X.1 X.2.1 dX12_odds_7 rfl (lv_at hl 1 rfl) ?_
    refine lv_iconst (v := 0) X.1 X.2.1 dX12_odds_8 (by decide) ?_
    refine lv_bipush (v := 7) X.1 X.2.1 dX12_odds_9 (by decide) ?_
    refine r_ei I (r_runS X I pk_X12_in (c12_in l G _ _ _ _ _) lm_X12_220 rfl hl.1 rfl (Nat.le_of_ble_eq_true rfl) dX12_odds_11 ⟨Nat.le_of_ble_eq_true rfl, Nat.le_of_ble_eq_true rfl⟩ ⟨Nat.le_refl 0, Nat.le_refl 0⟩) (fun H locs I => ?_)
    refine lv_if_eq (tgt := 27) X.1 X.2.1 dX12_odds_14 (by decide) (fun c_2 => ?_) (fun c_2 => ?_)
    · skip
      have hE := ite_f hE (b2i_n c_2)
      have ho := ite_fP ho (b2i_n c_2)
      refine lv_iconst (v := (-1)) X.1 X.2.1 dX12_odds_27 (by decide) ?_
      have h9 := hE
      exact r_iret X I (e_i (pr_fst h9) (pr_snd h9) rfl) dX12_odds_28
    · skip
      have hE := ite_t hE (b2i_y c_2)
      have ho := ite_tP ho (b2i_y c_2)
      refine lv_iload_n X.1 X.2.1 dX12_odds_17 rfl (lv_at hl 2 rfl) ?_
      refine lv_iconst (v := 0) X.1 X.2.1 dX12_odds_18 (by decide) ?_
      refine lv_bipush (v := 100) X.1 X.2.1 dX12_odds_19 (by decide) ?_
      refine r_ei I (r_runS X I pk_X12_in (c12_in l G _ _ _ _ _) lm_X12_220 rfl hl.1 rfl (Nat.le_of_ble_eq_true rfl) dX12_odds_21 ⟨Nat.le_of_ble_eq_true rfl, Nat.le_of_ble_eq_true rfl⟩ ⟨Nat.le_refl 0, Nat.le_refl 0⟩) (fun H locs I => ?_)
      refine lv_if_ne (tgt := 29) X.1 X.2.1 dX12_odds_24 (by decide) (fun c_3 => ?_) (fun c_3 => ?_)
      · skip
        have hE := ite_t hE (b2i_y c_3)
        have ho := ite_tP ho (b2i_y c_3)
        refine lv_aload_n X.1 X.2.1 dX12_odds_29 rfl (lv_at hl 0 rfl) ?_
        refine lv_iconst (v := 0) X.1 X.2.1 dX12_odds_30 (by decide) ?_
        refine lv_aload_n X.1 X.2.1 dX12_odds_31 rfl (lv_at hl 0 rfl) ?_
        refine g12_27 X I (k := 123) (by decide) rfl lf_X12_58 dX12_odds_32 ?_
        refine lv_bipush (v := 11) X.1 X.2.1 dX12_odds_35 (by decide) ?_
        refine r_ald X I (k := 140) (n := 255) (by decide) rfl (by unfold vp_in; decide) dX12_odds_37 ?_
        have ho1 := ho.1
        have ho := ho.2
        refine r_ei I (r_runV X I pk_X12_layOrder (c12_layOrder l G _ _ false _ ho1) lm_X12_399 (by decide) (cl_12 rfl) rfl rfl rfl hl.1 rfl (Nat.le_of_ble_eq_true rfl) dX12_odds_38 ⟨Nat.le_of_ble_eq_true rfl, Nat.le_of_ble_eq_true rfl⟩ ⟨Nat.le_refl 0, Nat.le_refl 0⟩) (fun H locs I => ?_)
        refine lv_iload_n X.1 X.2.1 dX12_odds_41 rfl (lv_at hl 1 rfl) ?_
        refine lv_icmp_ge (tgt := 49) X.1 X.2.1 dX12_odds_42 (by decide) (fun c_4 => ?_) (fun c_4 => ?_)
        · skip
          have hE := ite_t hE c_4
          have ho := ite_tP ho c_4
          refine lv_aload_n X.1 X.2.1 dX12_odds_49 rfl (lv_at hl 0 rfl) ?_
          refine lv_iconst (v := 0) X.1 X.2.1 dX12_odds_50 (by decide) ?_
          refine lv_iload_n X.1 X.2.1 dX12_odds_51 rfl (lv_at hl 1 rfl) ?_
          refine lv_iload_n X.1 X.2.1 dX12_odds_52 rfl (lv_at hl 2 rfl) ?_
          refine lv_ldcw X.1 X.2.1 (v := 1000000000) X.2.2.2.2.1 (X.2.2.2.1 _ lq_X12_438) dX12_odds_53 ?_
          have ho2 := ho.1
          have ho := ho.2
          refine r_ei I (r_runV X I pk_X12_oddsFrom (c12_oddsFromR l G _ _ _ _ _ _ ho2) lm_X12_434 (by decide) (cl_12 rfl) rfl rfl rfl hl.1 rfl (Nat.le_of_ble_eq_true rfl) dX12_odds_56 ⟨Nat.le_of_ble_eq_true rfl, Nat.le_of_ble_eq_true rfl⟩ ⟨Nat.le_refl 0, Nat.le_refl 0⟩) (fun H locs I => ?_)
          have h9 := hE
          exact r_iret X I (e_i (congrArg Prod.fst h9).symm (congrArg Prod.snd h9).symm rfl) dX12_odds_59
        · skip
          have hE := ite_f hE c_4
          have ho := ite_fP ho c_4
          refine lv_iconst (v := 0) X.1 X.2.1 dX12_odds_45 (by decide) ?_
          refine lv_goto (tgt := 59) X.1 X.2.1 dX12_odds_46 (by decide) ?_
          have h9 := hE
          exact r_iret X I (e_i (pr_fst h9) (pr_snd h9) rfl) dX12_odds_59
      · skip
        have hE := ite_f hE (b2i_n c_3)
        have ho := ite_fP ho (b2i_n c_3)
        refine lv_iconst (v := (-1)) X.1 X.2.1 dX12_odds_27 (by decide) ?_
        have h9 := hE
        exact r_iret X I (e_i (pr_fst h9) (pr_snd h9) rfl) dX12_odds_28
noncomputable def f12_allGrief_c4 (σ : SI) : Nat → Int32 → Int32 → Int32
  | 0, _, _ => 0
  | fu + 1, v1, v2 => if (σ 123 25) ≤ v2 then v1 else (f12_allGrief_c4 σ fu (v1 + (σ 140 (Int32.toNatClampNeg ((0 : Int32) + v2)))) (v2 + 1))
noncomputable def o12_allGrief_c4 (σ : SI) : Nat → Int32 → Int32 → Prop
  | 0, _, _ => True
  | fu + 1, v1, v2 => if (σ 123 25) ≤ v2 then True else ((vp_in ((0 : Int32) + v2) 255) ∧ (o12_allGrief_c4 σ fu (v1 + (σ 140 (Int32.toNatClampNeg ((0 : Int32) + v2)))) (v2 + 1)))
noncomputable def f12_allGrief (σ : SI) : Int32 := (f12_allGrief_c4 σ (fu1 ((Int32.toInt (σ 123 25) - Int32.toInt (0 : Int32)).toNat)) (0 : Int32) (0 : Int32))
noncomputable def o12_allGrief (σ : SI) : Prop := (o12_allGrief_c4 σ (fu1 ((Int32.toInt (σ 123 25) - Int32.toInt (0 : Int32)).toNat)) (0 : Int32) (0 : Int32))
set_option maxHeartbeats 4000000 in
set_option maxRecDepth 100000 in
theorem c12_allGrief_c4 {l : Launch} {p : Program} {e : Env} {s : State} {m : MethodId} {args : Array Value} {below : List Frame} {meth : Method} {c : Code} {G : GT} (X : CX p s m args meth c cX12_allGrief RX12 3 (some .int) G) {E : Int32} (σ : SI) (τ : SL) : ∀ (fu : Nat) (v1 : Int32) (v2 : Int32) (H : Heap) (locs : List Loc) (ls : Array Slot), IX G s H locs σ τ → lv_has ls 3 [(0, .ref (G.2.1 123)), (1, .int v1), (2, .int v2)] → (o12_allGrief_c4 σ fu v1 v2) → (Int32.toInt (σ 123 25) - Int32.toInt v2).toNat < fu → E = (f12_allGrief_c4 σ fu v1 v2) → W p l e (rmN 0) s m args below meth c H locs 0 0 (MQ below ((Qi G (Ei E σ τ)) s.heap.size) args s 0 0 (AW G s.heap.size)) (F0 m 4 ls []) := by
  intro fu
  induction fu with
  | zero =>
    intro v1 v2 H locs ls I hl  ho hm hE
    exact absurd hm (Nat.not_lt_zero _)
  | succ fu ih =>
    intro v1 v2 H locs ls I hl  ho hm hE
    unfold o12_allGrief_c4 at ho
    refine lv_iload_n X.1 X.2.1 dX12_allGrief_4 rfl (lv_at hl 2 rfl) ?_
    refine lv_aload_n X.1 X.2.1 dX12_allGrief_5 rfl (lv_at hl 0 rfl) ?_
    refine g12_25 X I (k := 123) (by decide) rfl lf_X12_264 dX12_allGrief_6 ?_
    refine lv_icmp_ge (tgt := 29) X.1 X.2.1 dX12_allGrief_9 (by decide) (fun c_1 => ?_) (fun c_1 => ?_)
    · skip
      have hE := ite_t hE c_1
      have ho := ite_tP ho c_1
      refine lv_iload_n X.1 X.2.1 dX12_allGrief_29 rfl (lv_at hl 1 rfl) ?_
      have h9 := hE
      exact r_iret X I (e_i h9.symm rfl rfl) dX12_allGrief_30
    · skip
      have hE := ite_f hE c_1
      have ho := ite_fP ho c_1
      refine lv_iload_n X.1 X.2.1 dX12_allGrief_12 rfl (lv_at hl 1 rfl) ?_
      refine lv_aload_n X.1 X.2.1 dX12_allGrief_13 rfl (lv_at hl 0 rfl) ?_
      refine g12_27 X I (k := 123) (by decide) rfl lf_X12_58 dX12_allGrief_14 ?_
      refine lv_iconst (v := 0) X.1 X.2.1 dX12_allGrief_17 (by decide) ?_
      refine lv_iload_n X.1 X.2.1 dX12_allGrief_18 rfl (lv_at hl 2 rfl) ?_
      refine lv_iadd X.1 X.2.1 dX12_allGrief_19 ?_
      have ho1 := ho.1
      have ho := ho.2
      refine r_ald X I (k := 140) (n := 255) (by decide) rfl ho1 dX12_allGrief_20 ?_
      refine lv_iadd X.1 X.2.1 dX12_allGrief_21 ?_
      refine lv_istore_n (lv' := [(1, .int _), (0, .ref _), (2, .int _)]) X.1 X.2.1 dX12_allGrief_22 rfl hl (by decide) rfl (fun ls hl => ?_)
      refine lv_iinc (v := _ + 1) (lv' := [(2, .int _), (1, .int _), (0, .ref _)]) X.1 X.2.1 dX12_allGrief_23 hl (k := 2) rfl rfl (by decide) rfl (fun ls hl => ?_)
      refine lv_goto (tgt := 4) X.1 X.2.1 dX12_allGrief_26 (by decide) ?_
      exact ih _ _ _ _ _ I (lv_sub hl [2, 1, 0] rfl) ho (Nat.lt_of_lt_of_le (up_dec c_1) (Nat.le_of_lt_succ hm)) (hE.trans (rfl))
set_option maxHeartbeats 4000000 in
set_option maxRecDepth 100000 in
theorem c12_allGrief (l : Launch) (G : GT) (σ : SI) (τ : SL) (ho : o12_allGrief σ) : Mc l yX12_allGrief cX12_allGrief 3 (some .int) 0 G [.ref (G.2.1 123)] σ τ (Qi G (Ei (f12_allGrief σ) σ τ)) := by
  refine m_start (by decide +kernel) (Nat.le_of_ble_eq_true rfl) rfl (fun p e s m args below meth c ls X I hl => ?_)
  have hl : lv_has ls 3 [(0, .ref (G.2.1 123))] := hl
  obtain ⟨E, hE⟩ : ∃ E, E = (f12_allGrief σ) := ⟨_, rfl⟩
  rw [← hE]
  unfold o12_allGrief at ho
  refine lv_iconst (v := 0) X.1 X.2.1 dX12_allGrief_0 (by decide) ?_
  refine lv_istore_n (lv' := [(1, .int _), (0, .ref _)]) X.1 X.2.1 dX12_allGrief_1 rfl hl (by decide) rfl (fun ls hl => ?_)
  refine lv_iconst (v := 0) X.1 X.2.1 dX12_allGrief_2 (by decide) ?_
  refine lv_istore_n (lv' := [(2, .int _), (1, .int _), (0, .ref _)]) X.1 X.2.1 dX12_allGrief_3 rfl hl (by decide) rfl (fun ls hl => ?_)
  exact c12_allGrief_c4 X _ _  _ _ _ _ _ _ I (lv_sub hl [2, 1, 0] rfl) ho (fu1_lt _) (hE.trans (rfl))
noncomputable def f12_shares (σ : SI) (x1 : Int32) (x2 : Int32) : Int32 := if (f12_isHouse σ x1) = true then (if (f12_in x2 (0 : Int32) (999 : Int32)) = true then (if (f12_allGrief σ) = (0 : Int32) then (0 : Int32) else ((x2 * (σ 140 (Int32.toNatClampNeg ((0 : Int32) + x1)))) / (f12_allGrief σ))) else (-1 : Int32)) else (-1 : Int32)
noncomputable def o12_shares (σ : SI) (x1 : Int32) (x2 : Int32) : Prop := if (f12_isHouse σ x1) = true then (if (f12_in x2 (0 : Int32) (999 : Int32)) = true then ((o12_allGrief σ) ∧ (if (f12_allGrief σ) = (0 : Int32) then True else ((vp_in ((0 : Int32) + x1) 255) ∧ ((o12_allGrief σ) ∧ True)))) else True) else True
set_option maxHeartbeats 4000000 in
set_option maxRecDepth 100000 in
theorem c12_shares (l : Launch) (G : GT) (σ : SI) (τ : SL) (x1 : Int32) (x2 : Int32) (ho : o12_shares σ x1 x2) : Mc l yX12_shares cX12_shares 3 (some .int) 2 G [.ref (G.2.1 123), .int x1, .int x2] σ τ (Qi G (Ei (f12_shares σ x1 x2) σ τ)) := by
  refine m_start (by decide +kernel) (Nat.le_of_ble_eq_true rfl) rfl (fun p e s m args below meth c ls X I hl => ?_)
  have hl : lv_has ls 3 [(0, .ref (G.2.1 123)), (1, .int x1), (2, .int x2)] := hl
  obtain ⟨E, hE⟩ : ∃ E, E = (f12_shares σ x1 x2) := ⟨_, rfl⟩
  rw [← hE]
  unfold o12_shares at ho
  refine lv_aload_n X.1 X.2.1 dX12_shares_0 rfl (lv_at hl 0 rfl) ?_
  refine lv_iload_n X.1 X.2.1 dX12_shares_1 rfl (lv_at hl 1 rfl) ?_
  refine r_ei I (r_runV X I pk_X12_isHouse (c12_isHouse l G _ _ _) lm_X12_332 (by decide) (cl_12 rfl) rfl rfl rfl hl.1 rfl (Nat.le_of_ble_eq_true rfl) dX12_shares_2 ⟨Nat.le_of_ble_eq_true rfl, Nat.le_of_ble_eq_true rfl⟩ ⟨Nat.le_refl 0, Nat.le_refl 0⟩) (fun H locs I => ?_)
  refine lv_if_eq (tgt := 19) X.1 X.2.1 dX12_shares_5 (by decide) (fun c_1 => ?_) (fun c_1 => ?_)
  · skip
    have hE := ite_f hE (b2i_n c_1)
    have ho := ite_fP ho (b2i_n c_1)
    refine lv_iconst (v := (-1)) X.1 X.2.1 dX12_shares_19 (by decide) ?_
    have h9 := hE
    exact r_iret X I (e_i h9.symm rfl rfl) dX12_shares_20
  · skip
    have hE := ite_t hE (b2i_y c_1)
    have ho := ite_tP ho (b2i_y c_1)
    refine lv_iload_n X.1 X.2.1 dX12_shares_8 rfl (lv_at hl 2 rfl) ?_
    refine lv_iconst (v := 0) X.1 X.2.1 dX12_shares_9 (by decide) ?_
    refine lv_sipush (v := 999) X.1 X.2.1 dX12_shares_10 (by decide) ?_
    refine r_ei I (r_runS X I pk_X12_in (c12_in l G _ _ _ _ _) lm_X12_220 rfl hl.1 rfl (Nat.le_of_ble_eq_true rfl) dX12_shares_13 ⟨Nat.le_of_ble_eq_true rfl, Nat.le_of_ble_eq_true rfl⟩ ⟨Nat.le_refl 0, Nat.le_refl 0⟩) (fun H locs I => ?_)
    refine lv_if_ne (tgt := 21) X.1 X.2.1 dX12_shares_16 (by decide) (fun c_2 => ?_) (fun c_2 => ?_)
    · skip
      have hE := ite_t hE (b2i_y c_2)
      have ho := ite_tP ho (b2i_y c_2)
      refine lv_aload_n X.1 X.2.1 dX12_shares_21 rfl (lv_at hl 0 rfl) ?_
      have ho1 := ho.1
      have ho := ho.2
      refine r_ei I (r_runV X I pk_X12_allGrief (c12_allGrief l G _ _ ho1) lm_X12_439 (by decide) (cl_12 rfl) rfl rfl rfl hl.1 rfl (Nat.le_of_ble_eq_true rfl) dX12_shares_22 ⟨Nat.le_of_ble_eq_true rfl, Nat.le_of_ble_eq_true rfl⟩ ⟨Nat.le_refl 0, Nat.le_refl 0⟩) (fun H locs I => ?_)
      refine lv_if_ne (tgt := 32) X.1 X.2.1 dX12_shares_25 (by decide) (fun c_3 => ?_) (fun c_3 => ?_)
      · skip
        have hE := ite_f hE c_3
        have ho := ite_fP ho c_3
        refine lv_iload_n X.1 X.2.1 dX12_shares_32 rfl (lv_at hl 2 rfl) ?_
        refine lv_aload_n X.1 X.2.1 dX12_shares_33 rfl (lv_at hl 0 rfl) ?_
        refine g12_27 X I (k := 123) (by decide) rfl lf_X12_58 dX12_shares_34 ?_
        refine lv_iconst (v := 0) X.1 X.2.1 dX12_shares_37 (by decide) ?_
        refine lv_iload_n X.1 X.2.1 dX12_shares_38 rfl (lv_at hl 1 rfl) ?_
        refine lv_iadd X.1 X.2.1 dX12_shares_39 ?_
        have ho2 := ho.1
        have ho := ho.2
        refine r_ald X I (k := 140) (n := 255) (by decide) rfl ho2 dX12_shares_40 ?_
        refine lv_imul X.1 X.2.1 dX12_shares_41 ?_
        refine lv_aload_n X.1 X.2.1 dX12_shares_42 rfl (lv_at hl 0 rfl) ?_
        have ho3 := ho.1
        have ho := ho.2
        refine r_ei I (r_runV X I pk_X12_allGrief (c12_allGrief l G _ _ ho3) lm_X12_439 (by decide) (cl_12 rfl) rfl rfl rfl hl.1 rfl (Nat.le_of_ble_eq_true rfl) dX12_shares_43 ⟨Nat.le_of_ble_eq_true rfl, Nat.le_of_ble_eq_true rfl⟩ ⟨Nat.le_refl 0, Nat.le_refl 0⟩) (fun H locs I => ?_)
        refine lv_idiv X.1 X.2.1 dX12_shares_46 c_3 ?_
        have h9 := hE
        exact r_iret X I (e_i h9.symm rfl rfl) dX12_shares_47
      · skip
        have hE := ite_t hE c_3
        have ho := ite_tP ho c_3
        refine lv_iconst (v := 0) X.1 X.2.1 dX12_shares_28 (by decide) ?_
        refine lv_goto (tgt := 47) X.1 X.2.1 dX12_shares_29 (by decide) ?_
        have h9 := hE
        exact r_iret X I (e_i h9.symm rfl rfl) dX12_shares_47
    · skip
      have hE := ite_f hE (b2i_n c_2)
      have ho := ite_fP ho (b2i_n c_2)
      refine lv_iconst (v := (-1)) X.1 X.2.1 dX12_shares_19 (by decide) ?_
      have h9 := hE
      exact r_iret X I (e_i h9.symm rfl rfl) dX12_shares_20
noncomputable def f12_nearest_c4 (σ : SI) : Nat → Int32 → Int32 → Int32
  | 0, _, _ => 0
  | fu + 1, v1, v2 => if (σ 123 25) ≤ v2 then v1 else (if v2 = (σ 140 10) then (f12_nearest_c4 σ fu v1 (v2 + 1)) else (if v1 = (-1 : Int32) then (f12_nearest_c4 σ fu v2 (v2 + 1)) else (if (f12_stepsNow σ v1) ≤ (f12_stepsNow σ v2) then (f12_nearest_c4 σ fu v1 (v2 + 1)) else (f12_nearest_c4 σ fu v2 (v2 + 1)))))
noncomputable def o12_nearest_c4 (σ : SI) : Nat → Int32 → Int32 → Prop
  | 0, _, _ => True
  | fu + 1, v1, v2 => if (σ 123 25) ≤ v2 then True else (if v2 = (σ 140 10) then (o12_nearest_c4 σ fu v1 (v2 + 1)) else (if v1 = (-1 : Int32) then (o12_nearest_c4 σ fu v2 (v2 + 1)) else ((o12_stepsNow σ v2) ∧ ((o12_stepsNow σ v1) ∧ (if (f12_stepsNow σ v1) ≤ (f12_stepsNow σ v2) then (o12_nearest_c4 σ fu v1 (v2 + 1)) else (o12_nearest_c4 σ fu v2 (v2 + 1)))))))
noncomputable def f12_nearest (σ : SI) : Int32 := (f12_nearest_c4 σ (fu1 ((Int32.toInt (σ 123 25) - Int32.toInt (0 : Int32)).toNat)) (-1 : Int32) (0 : Int32))
noncomputable def o12_nearest (σ : SI) : Prop := (o12_nearest_c4 σ (fu1 ((Int32.toInt (σ 123 25) - Int32.toInt (0 : Int32)).toNat)) (-1 : Int32) (0 : Int32))
set_option maxHeartbeats 4000000 in
set_option maxRecDepth 100000 in
theorem c12_nearest_c4 {l : Launch} {p : Program} {e : Env} {s : State} {m : MethodId} {args : Array Value} {below : List Frame} {meth : Method} {c : Code} {G : GT} (X : CX p s m args meth c cX12_nearest RX12 3 (some .int) G) {E : Int32} (σ : SI) (τ : SL) : ∀ (fu : Nat) (v1 : Int32) (v2 : Int32) (H : Heap) (locs : List Loc) (ls : Array Slot), IX G s H locs σ τ → lv_has ls 3 [(0, .ref (G.2.1 123)), (1, .int v1), (2, .int v2)] → (o12_nearest_c4 σ fu v1 v2) → (Int32.toInt (σ 123 25) - Int32.toInt v2).toNat < fu → E = (f12_nearest_c4 σ fu v1 v2) → W p l e (rmN 3) s m args below meth c H locs 0 0 (MQ below ((Qi G (Ei E σ τ)) s.heap.size) args s 0 0 (AW G s.heap.size)) (F0 m 4 ls []) := by
  intro fu
  induction fu with
  | zero =>
    intro v1 v2 H locs ls I hl  ho hm hE
    exact absurd hm (Nat.not_lt_zero _)
  | succ fu ih =>
    intro v1 v2 H locs ls I hl  ho hm hE
    unfold o12_nearest_c4 at ho
    refine lv_iload_n X.1 X.2.1 dX12_nearest_4 rfl (lv_at hl 2 rfl) ?_
    refine lv_aload_n X.1 X.2.1 dX12_nearest_5 rfl (lv_at hl 0 rfl) ?_
    refine g12_25 X I (k := 123) (by decide) rfl lf_X12_264 dX12_nearest_6 ?_
    refine lv_icmp_ge (tgt := 53) X.1 X.2.1 dX12_nearest_9 (by decide) (fun c_1 => ?_) (fun c_1 => ?_)
    · skip
      have hE := ite_t hE c_1
      have ho := ite_tP ho c_1
      refine lv_iload_n X.1 X.2.1 dX12_nearest_53 rfl (lv_at hl 1 rfl) ?_
      have h9 := hE
      exact r_iret X I (e_i h9.symm rfl rfl) dX12_nearest_54
    · skip
      have hE := ite_f hE c_1
      have ho := ite_fP ho c_1
      refine lv_iload_n X.1 X.2.1 dX12_nearest_12 rfl (lv_at hl 2 rfl) ?_
      refine lv_aload_n X.1 X.2.1 dX12_nearest_13 rfl (lv_at hl 0 rfl) ?_
      refine g12_27 X I (k := 123) (by decide) rfl lf_X12_58 dX12_nearest_14 ?_
      refine lv_bipush (v := 10) X.1 X.2.1 dX12_nearest_17 (by decide) ?_
      refine r_ald X I (k := 140) (n := 255) (by decide) rfl (by unfold vp_in; decide) dX12_nearest_19 ?_
      refine lv_icmp_eq (tgt := 45) X.1 X.2.1 dX12_nearest_20 (by decide) (fun c_2 => ?_) (fun c_2 => ?_)
      · skip
        have hE := ite_t hE c_2
        have ho := ite_tP ho c_2
        refine lv_iload_n X.1 X.2.1 dX12_nearest_45 rfl (lv_at hl 1 rfl) ?_
        refine lv_istore_n (lv' := [(1, .int _), (0, .ref _), (2, .int _)]) X.1 X.2.1 dX12_nearest_46 rfl hl (by decide) rfl (fun ls hl => ?_)
        refine lv_iinc (v := _ + 1) (lv' := [(2, .int _), (1, .int _), (0, .ref _)]) X.1 X.2.1 dX12_nearest_47 hl (k := 2) rfl rfl (by decide) rfl (fun ls hl => ?_)
        refine lv_goto (tgt := 4) X.1 X.2.1 dX12_nearest_50 (by decide) ?_
        exact ih _ _ _ _ _ I (lv_sub hl [2, 1, 0] rfl) ho (Nat.lt_of_lt_of_le (up_dec c_1) (Nat.le_of_lt_succ hm)) (hE.trans (rfl))
      · skip
        have hE := ite_f hE c_2
        have ho := ite_fP ho c_2
        refine lv_iload_n X.1 X.2.1 dX12_nearest_23 rfl (lv_at hl 1 rfl) ?_
        refine lv_iconst (v := (-1)) X.1 X.2.1 dX12_nearest_24 (by decide) ?_
        refine lv_icmp_eq (tgt := 41) X.1 X.2.1 dX12_nearest_25 (by decide) (fun c_3 => ?_) (fun c_3 => ?_)
        · skip
          have hE := ite_t hE c_3
          have ho := ite_tP ho c_3
          refine lv_iload_n X.1 X.2.1 dX12_nearest_41 rfl (lv_at hl 2 rfl) ?_
          refine lv_goto (tgt := 46) X.1 X.2.1 dX12_nearest_42 (by decide) ?_
          refine lv_istore_n (lv' := [(1, .int _), (0, .ref _), (2, .int _)]) X.1 X.2.1 dX12_nearest_46 rfl hl (by decide) rfl (fun ls hl => ?_)
          refine lv_iinc (v := _ + 1) (lv' := [(2, .int _), (1, .int _), (0, .ref _)]) X.1 X.2.1 dX12_nearest_47 hl (k := 2) rfl rfl (by decide) rfl (fun ls hl => ?_)
          refine lv_goto (tgt := 4) X.1 X.2.1 dX12_nearest_50 (by decide) ?_
          exact ih _ _ _ _ _ I (lv_sub hl [2, 1, 0] rfl) ho (Nat.lt_of_lt_of_le (up_dec c_1) (Nat.le_of_lt_succ hm)) (hE.trans (rfl))
        · skip
          have hE := ite_f hE c_3
          have ho := ite_fP ho c_3
          refine lv_aload_n X.1 X.2.1 dX12_nearest_28 rfl (lv_at hl 0 rfl) ?_
          refine lv_iload_n X.1 X.2.1 dX12_nearest_29 rfl (lv_at hl 2 rfl) ?_
          have ho1 := ho.1
          have ho := ho.2
          refine r_ei I (r_runV X I pk_X12_stepsNow (c12_stepsNow l G _ _ _ ho1) lm_X12_313 (by decide) (cl_12 rfl) rfl rfl rfl hl.1 rfl (Nat.le_of_ble_eq_true rfl) dX12_nearest_30 ⟨Nat.le_of_ble_eq_true rfl, Nat.le_of_ble_eq_true rfl⟩ ⟨Nat.le_refl 0, Nat.le_refl 0⟩) (fun H locs I => ?_)
          refine lv_aload_n X.1 X.2.1 dX12_nearest_33 rfl (lv_at hl 0 rfl) ?_
          refine lv_iload_n X.1 X.2.1 dX12_nearest_34 rfl (lv_at hl 1 rfl) ?_
          have ho2 := ho.1
          have ho := ho.2
          refine r_ei I (r_runV X I pk_X12_stepsNow (c12_stepsNow l G _ _ _ ho2) lm_X12_313 (by decide) (cl_12 rfl) rfl rfl rfl hl.1 rfl (Nat.le_of_ble_eq_true rfl) dX12_nearest_35 ⟨Nat.le_of_ble_eq_true rfl, Nat.le_of_ble_eq_true rfl⟩ ⟨Nat.le_refl 0, Nat.le_refl 0⟩) (fun H locs I => ?_)
          refine lv_icmp_ge (tgt := 45) X.1 X.2.1 dX12_nearest_38 (by decide) (fun c_4 => ?_) (fun c_4 => ?_)
          · skip
            have hE := ite_t hE c_4
            have ho := ite_tP ho c_4
            refine lv_iload_n X.1 X.2.1 dX12_nearest_45 rfl (lv_at hl 1 rfl) ?_
            refine lv_istore_n (lv' := [(1, .int _), (0, .ref _), (2, .int _)]) X.1 X.2.1 dX12_nearest_46 rfl hl (by decide) rfl (fun ls hl => ?_)
            refine lv_iinc (v := _ + 1) (lv' := [(2, .int _), (1, .int _), (0, .ref _)]) X.1 X.2.1 dX12_nearest_47 hl (k := 2) rfl rfl (by decide) rfl (fun ls hl => ?_)
            refine lv_goto (tgt := 4) X.1 X.2.1 dX12_nearest_50 (by decide) ?_
            exact ih _ _ _ _ _ I (lv_sub hl [2, 1, 0] rfl) ho (Nat.lt_of_lt_of_le (up_dec c_1) (Nat.le_of_lt_succ hm)) (hE.trans (rfl))
          · skip
            have hE := ite_f hE c_4
            have ho := ite_fP ho c_4
            refine lv_iload_n X.1 X.2.1 dX12_nearest_41 rfl (lv_at hl 2 rfl) ?_
            refine lv_goto (tgt := 46) X.1 X.2.1 dX12_nearest_42 (by decide) ?_
            refine lv_istore_n (lv' := [(1, .int _), (0, .ref _), (2, .int _)]) X.1 X.2.1 dX12_nearest_46 rfl hl (by decide) rfl (fun ls hl => ?_)
            refine lv_iinc (v := _ + 1) (lv' := [(2, .int _), (1, .int _), (0, .ref _)]) X.1 X.2.1 dX12_nearest_47 hl (k := 2) rfl rfl (by decide) rfl (fun ls hl => ?_)
            refine lv_goto (tgt := 4) X.1 X.2.1 dX12_nearest_50 (by decide) ?_
            exact ih _ _ _ _ _ I (lv_sub hl [2, 1, 0] rfl) ho (Nat.lt_of_lt_of_le (up_dec c_1) (Nat.le_of_lt_succ hm)) (hE.trans (rfl))
set_option maxHeartbeats 4000000 in
set_option maxRecDepth 100000 in
theorem c12_nearest (l : Launch) (G : GT) (σ : SI) (τ : SL) (ho : o12_nearest σ) : Mc l yX12_nearest cX12_nearest 3 (some .int) 3 G [.ref (G.2.1 123)] σ τ (Qi G (Ei (f12_nearest σ) σ τ)) := by
  refine m_start (by decide +kernel) (Nat.le_of_ble_eq_true rfl) rfl (fun p e s m args below meth c ls X I hl => ?_)
  have hl : lv_has ls 3 [(0, .ref (G.2.1 123))] := hl
  obtain ⟨E, hE⟩ : ∃ E, E = (f12_nearest σ) := ⟨_, rfl⟩
  rw [← hE]
  unfold o12_nearest at ho
  refine lv_iconst (v := (-1)) X.1 X.2.1 dX12_nearest_0 (by decide) ?_
  refine lv_istore_n (lv' := [(1, .int _), (0, .ref _)]) X.1 X.2.1 dX12_nearest_1 rfl hl (by decide) rfl (fun ls hl => ?_)
  refine lv_iconst (v := 0) X.1 X.2.1 dX12_nearest_2 (by decide) ?_
  refine lv_istore_n (lv' := [(2, .int _), (1, .int _), (0, .ref _)]) X.1 X.2.1 dX12_nearest_3 rfl hl (by decide) rfl (fun ls hl => ?_)
  exact c12_nearest_c4 X _ _  _ _ _ _ _ _ I (lv_sub hl [2, 1, 0] rfl) ho (fu1_lt _) (hE.trans (rfl))
