noncomputable def f12_ask_c26 (x1 : Int32) : Nat → Int32 → Int32 → Int32 → SI → (Int32 × SI)
  | 0, _, _, _, σ => (0, σ)
  | fu + 1, v2, v3, v4, σ => if (σ 123 25) ≤ v4 then (v2, σ) else (let r0 := (f12_mostAlike σ v4 x1); if r0.1 ≤ (0 : Int32) then (f12_ask_c26 x1 fu v2 v3 (v4 + 1) r0.2) else (if v2 = (-1 : Int32) then (f12_ask_c26 x1 fu v4 r0.1 (v4 + 1) r0.2) else (if v3 ≤ r0.1 then (f12_ask_c26 x1 fu v2 v3 (v4 + 1) r0.2) else (f12_ask_c26 x1 fu v4 r0.1 (v4 + 1) r0.2))))
noncomputable def o12_ask_c26 (x1 : Int32) : Nat → Int32 → Int32 → Int32 → SI → Prop
  | 0, _, _, _, _ => True
  | fu + 1, v2, v3, v4, σ => if (σ 123 25) ≤ v4 then True else ((o12_mostAlike σ v4 x1) ∧ (let r0 := (f12_mostAlike σ v4 x1); if r0.1 ≤ (0 : Int32) then (o12_ask_c26 x1 fu v2 v3 (v4 + 1) r0.2) else (if v2 = (-1 : Int32) then (o12_ask_c26 x1 fu v4 r0.1 (v4 + 1) r0.2) else (if v3 ≤ r0.1 then (o12_ask_c26 x1 fu v2 v3 (v4 + 1) r0.2) else (o12_ask_c26 x1 fu v4 r0.1 (v4 + 1) r0.2)))))
noncomputable def f12_ask (σ : SI) (x1 : Int32) : Int32 × SI := if (σ 123 25) = (0 : Int32) then ((-1 : Int32), σ) else (if (f12_in x1 (0 : Int32) (99 : Int32)) = true then (f12_ask_c26 x1 (fu1 ((Int32.toInt (σ 123 25) - Int32.toInt (0 : Int32)).toNat)) (-1 : Int32) (0 : Int32) (0 : Int32) σ) else ((-1 : Int32), σ))
noncomputable def o12_ask (σ : SI) (x1 : Int32) : Prop := if (σ 123 25) = (0 : Int32) then True else (if (f12_in x1 (0 : Int32) (99 : Int32)) = true then (o12_ask_c26 x1 (fu1 ((Int32.toInt (σ 123 25) - Int32.toInt (0 : Int32)).toNat)) (-1 : Int32) (0 : Int32) (0 : Int32) σ) else True)
theorem w_f12_ask_c26 (x1 : Int32) (a : Nat) (h0 : a ≠ 132) (h1 : a ≠ 133) (h2 : a ≠ 148) : ∀ (fu : Nat) (v2 : Int32) (v3 : Int32) (v4 : Int32) (σ : SI), (f12_ask_c26 x1 fu v2 v3 v4 σ).2 a = σ a := by
  intro fu
  induction fu with
  | zero => intro v2 v3 v4 σ; exact rfl
  | succ fu ih =>
    intro v2 v3 v4 σ
    refine fp_to2 ?_
    unfold f12_ask_c26
    exact (fr_ite2 (fr_mk21 rfl) (fr_ite2 (fp_of2 (((ih _ _ _ _).trans (w_f12_mostAlike _ _ _ a h0 h1 h2)))) (fr_ite2 (fp_of2 (((ih _ _ _ _).trans (w_f12_mostAlike _ _ _ a h0 h1 h2)))) (fr_ite2 (fp_of2 (((ih _ _ _ _).trans (w_f12_mostAlike _ _ _ a h0 h1 h2)))) (fp_of2 (((ih _ _ _ _).trans (w_f12_mostAlike _ _ _ a h0 h1 h2))))))))
theorem w_f12_ask (σ : SI) (x1 : Int32) (a : Nat) (h0 : a ≠ 132) (h1 : a ≠ 133) (h2 : a ≠ 148) : (f12_ask σ x1).2 a = σ a := by
  refine fp_to2 ?_
  unfold f12_ask
  exact (fr_ite2 (fr_mk21 rfl) (fr_ite2 (fp_of2 ((w_f12_ask_c26 _ a h0 h1 h2 _ _ _ _ _))) (fr_mk21 rfl)))
set_option maxHeartbeats 4000000 in
set_option maxRecDepth 100000 in
theorem c12_ask_c26 {l : Launch} {p : Program} {e : Env} {s : State} {m : MethodId} {args : Array Value} {below : List Frame} {meth : Method} {c : Code} {G : GT} (X : CX p s m args meth c cX12_ask RX12 6 (some .int) G) {E : Int32 × SI} (τ : SL) (x1 : Int32) : ∀ (fu : Nat) (v2 : Int32) (v3 : Int32) (v4 : Int32) (σ : SI) (H : Heap) (locs : List Loc) (ls : Array Slot), IX G s H locs σ τ → lv_has ls 6 [(0, .ref (G.2.1 123)), (1, .int x1), (2, .int v2), (3, .int v3), (4, .int v4)] → (o12_ask_c26 x1 fu v2 v3 v4 σ) → (Int32.toInt (σ 123 25) - Int32.toInt v4).toNat < fu → E = (f12_ask_c26 x1 fu v2 v3 v4 σ) → W p l e (rmN 9) s m args below meth c H locs 0 0 (MQ below ((Qi G (Ei E.1 E.2 τ)) s.heap.size) args s 0 0 (AW G s.heap.size)) (F0 m 26 ls []) := by
  intro fu
  induction fu with
  | zero =>
    intro v2 v3 v4 σ H locs ls I hl  ho hm hE
    exact absurd hm (Nat.not_lt_zero _)
  | succ fu ih =>
    intro v2 v3 v4 σ H locs ls I hl  ho hm hE
    unfold o12_ask_c26 at ho
    refine lv_iload X.1 X.2.1 dX12_ask_26 (lv_at hl 4 rfl) ?_
    refine lv_aload_n X.1 X.2.1 dX12_ask_28 rfl (lv_at hl 0 rfl) ?_
    refine g12_25 X I (k := 123) (by decide) rfl lf_X12_264 dX12_ask_29 ?_
    refine lv_icmp_ge (tgt := 72) X.1 X.2.1 dX12_ask_32 (by decide) (fun c_3 => ?_) (fun c_3 => ?_)
    · skip
      have hE := ite_t hE c_3
      have ho := ite_tP ho c_3
      refine lv_iload_n X.1 X.2.1 dX12_ask_72 rfl (lv_at hl 2 rfl) ?_
      have h9 := hE
      exact r_iret X I (e_i (pr_fst h9) (pr_snd h9) rfl) dX12_ask_73
    · skip
      have hE := ite_f hE c_3
      have ho := ite_fP ho c_3
      refine lv_aload_n X.1 X.2.1 dX12_ask_35 rfl (lv_at hl 0 rfl) ?_
      refine lv_iload X.1 X.2.1 dX12_ask_36 (lv_at hl 4 rfl) ?_
      refine lv_iload_n X.1 X.2.1 dX12_ask_38 rfl (lv_at hl 1 rfl) ?_
      have ho1 := ho.1
      have ho := ho.2
      refine r_ei I (r_runV X I pk_X12_mostAlike (c12_mostAlike l G _ _ _ _ ho1) lm_X12_409 (by decide) (cl_12 rfl) rfl rfl rfl hl.1 rfl (Nat.le_of_ble_eq_true rfl) dX12_ask_39 ⟨Nat.le_of_ble_eq_true rfl, Nat.le_of_ble_eq_true rfl⟩ ⟨Nat.le_refl 0, Nat.le_refl 0⟩) (fun H locs I => ?_)
      refine lv_istore (lv' := [(5, .int _), (0, .ref _), (1, .int _), (2, .int _), (3, .int _), (4, .int _)]) X.1 X.2.1 dX12_ask_42 hl (by decide) rfl (fun ls hl => ?_)
      refine lv_iload X.1 X.2.1 dX12_ask_44 (lv_at hl 0 rfl) ?_
      refine lv_if_le (tgt := 66) X.1 X.2.1 dX12_ask_46 (by decide) (fun c_4 => ?_) (fun c_4 => ?_)
      · skip
        have hE := ite_t hE c_4
        have ho := ite_tP ho c_4
        refine lv_iinc (v := _ + 1) (lv' := [(4, .int _), (5, .int _), (0, .ref _), (1, .int _), (2, .int _), (3, .int _)]) X.1 X.2.1 dX12_ask_66 hl (k := 5) rfl rfl (by decide) rfl (fun ls hl => ?_)
        refine lv_goto (tgt := 26) X.1 X.2.1 dX12_ask_69 (by decide) ?_
        exact ih _ _ _ _ _ _ _ I (lv_sub hl [2, 3, 4, 5, 0] rfl) ho (Nat.lt_of_lt_of_le (dec_c (by first | with_reducible rfl | simp [w_f12_mostAlike, sp_n]) (up_dec c_3)) (Nat.le_of_lt_succ hm)) (hE.trans (rfl))
      · skip
        have hE := ite_f hE c_4
        have ho := ite_fP ho c_4
        refine lv_iload_n X.1 X.2.1 dX12_ask_49 rfl (lv_at hl 3 rfl) ?_
        refine lv_iconst (v := (-1)) X.1 X.2.1 dX12_ask_50 (by decide) ?_
        refine lv_icmp_eq (tgt := 60) X.1 X.2.1 dX12_ask_51 (by decide) (fun c_5 => ?_) (fun c_5 => ?_)
        · skip
          have hE := ite_t hE c_5
          have ho := ite_tP ho c_5
          refine lv_iload X.1 X.2.1 dX12_ask_60 (lv_at hl 5 rfl) ?_
          refine lv_istore_n (lv' := [(2, .int _), (5, .int _), (0, .ref _), (1, .int _), (3, .int _), (4, .int _)]) X.1 X.2.1 dX12_ask_62 rfl hl (by decide) rfl (fun ls hl => ?_)
          refine lv_iload X.1 X.2.1 dX12_ask_63 (lv_at hl 1 rfl) ?_
          refine lv_istore_n (lv' := [(3, .int _), (2, .int _), (5, .int _), (0, .ref _), (1, .int _), (4, .int _)]) X.1 X.2.1 dX12_ask_65 rfl hl (by decide) rfl (fun ls hl => ?_)
          refine lv_iinc (v := _ + 1) (lv' := [(4, .int _), (3, .int _), (2, .int _), (5, .int _), (0, .ref _), (1, .int _)]) X.1 X.2.1 dX12_ask_66 hl (k := 5) rfl rfl (by decide) rfl (fun ls hl => ?_)
          refine lv_goto (tgt := 26) X.1 X.2.1 dX12_ask_69 (by decide) ?_
          exact ih _ _ _ _ _ _ _ I (lv_sub hl [4, 5, 2, 1, 0] rfl) ho (Nat.lt_of_lt_of_le (dec_c (by first | with_reducible rfl | simp [w_f12_mostAlike, sp_n]) (up_dec c_3)) (Nat.le_of_lt_succ hm)) (hE.trans (rfl))
        · skip
          have hE := ite_f hE c_5
          have ho := ite_fP ho c_5
          refine lv_iload X.1 X.2.1 dX12_ask_54 (lv_at hl 0 rfl) ?_
          refine lv_iload_n X.1 X.2.1 dX12_ask_56 rfl (lv_at hl 4 rfl) ?_
          refine lv_icmp_ge (tgt := 66) X.1 X.2.1 dX12_ask_57 (by decide) (fun c_6 => ?_) (fun c_6 => ?_)
          · skip
            have hE := ite_t hE c_6
            have ho := ite_tP ho c_6
            refine lv_iinc (v := _ + 1) (lv' := [(4, .int _), (5, .int _), (0, .ref _), (1, .int _), (2, .int _), (3, .int _)]) X.1 X.2.1 dX12_ask_66 hl (k := 5) rfl rfl (by decide) rfl (fun ls hl => ?_)
            refine lv_goto (tgt := 26) X.1 X.2.1 dX12_ask_69 (by decide) ?_
            exact ih _ _ _ _ _ _ _ I (lv_sub hl [2, 3, 4, 5, 0] rfl) ho (Nat.lt_of_lt_of_le (dec_c (by first | with_reducible rfl | simp [w_f12_mostAlike, sp_n]) (up_dec c_3)) (Nat.le_of_lt_succ hm)) (hE.trans (rfl))
          · skip
            have hE := ite_f hE c_6
            have ho := ite_fP ho c_6
            refine lv_iload X.1 X.2.1 dX12_ask_60 (lv_at hl 5 rfl) ?_
            refine lv_istore_n (lv' := [(2, .int _), (5, .int _), (0, .ref _), (1, .int _), (3, .int _), (4, .int _)]) X.1 X.2.1 dX12_ask_62 rfl hl (by decide) rfl (fun ls hl => ?_)
            refine lv_iload X.1 X.2.1 dX12_ask_63 (lv_at hl 1 rfl) ?_
            refine lv_istore_n (lv' := [(3, .int _), (2, .int _), (5, .int _), (0, .ref _), (1, .int _), (4, .int _)]) X.1 X.2.1 dX12_ask_65 rfl hl (by decide) rfl (fun ls hl => ?_)
            refine lv_iinc (v := _ + 1) (lv' := [(4, .int _), (3, .int _), (2, .int _), (5, .int _), (0, .ref _), (1, .int _)]) X.1 X.2.1 dX12_ask_66 hl (k := 5) rfl rfl (by decide) rfl (fun ls hl => ?_)
            refine lv_goto (tgt := 26) X.1 X.2.1 dX12_ask_69 (by decide) ?_
            exact ih _ _ _ _ _ _ _ I (lv_sub hl [4, 5, 2, 1, 0] rfl) ho (Nat.lt_of_lt_of_le (dec_c (by first | with_reducible rfl | simp [w_f12_mostAlike, sp_n]) (up_dec c_3)) (Nat.le_of_lt_succ hm)) (hE.trans (rfl))
set_option maxHeartbeats 4000000 in
set_option maxRecDepth 100000 in
theorem c12_ask (l : Launch) (G : GT) (σ : SI) (τ : SL) (x1 : Int32) (ho : o12_ask σ x1) : Mc l yX12_ask cX12_ask 6 (some .int) 9 G [.ref (G.2.1 123), .int x1] σ τ (Qi G (Ei (f12_ask σ x1).1 (f12_ask σ x1).2 τ)) := by
  refine m_start (by decide +kernel) (Nat.le_of_ble_eq_true rfl) rfl (fun p e s m args below meth c ls X I hl => ?_)
  have hl : lv_has ls 6 [(0, .ref (G.2.1 123)), (1, .int x1)] := hl
  obtain ⟨E, hE⟩ : ∃ E, E = (f12_ask σ x1) := ⟨_, rfl⟩
  rw [← hE]
  unfold o12_ask at ho
  refine lv_aload_n X.1 X.2.1 dX12_ask_0 rfl (lv_at hl 0 rfl) ?_
  refine g12_25 X I (k := 123) (by decide) rfl lf_X12_264 dX12_ask_1 ?_
  refine lv_if_eq (tgt := 17) X.1 X.2.1 dX12_ask_4 (by decide) (fun c_1 => ?_) (fun c_1 => ?_)
  · skip
    have hE := ite_t hE c_1
    have ho := ite_tP ho c_1
    refine lv_iconst (v := (-1)) X.1 X.2.1 dX12_ask_17 (by decide) ?_
    have h9 := hE
    exact r_iret X I (e_i (pr_fst h9) (pr_snd h9) rfl) dX12_ask_18
  · skip
    have hE := ite_f hE c_1
    have ho := ite_fP ho c_1
    refine lv_iload_n X.1 X.2.1 dX12_ask_7 rfl (lv_at hl 1 rfl) ?_
    refine lv_iconst (v := 0) X.1 X.2.1 dX12_ask_8 (by decide) ?_
    refine lv_bipush (v := 99) X.1 X.2.1 dX12_ask_9 (by decide) ?_
    refine r_ei I (r_runS X I pk_X12_in (c12_in l G _ _ _ _ _) lm_X12_220 rfl hl.1 rfl (Nat.le_of_ble_eq_true rfl) dX12_ask_11 ⟨Nat.le_of_ble_eq_true rfl, Nat.le_of_ble_eq_true rfl⟩ ⟨Nat.le_refl 0, Nat.le_refl 0⟩) (fun H locs I => ?_)
    refine lv_if_ne (tgt := 19) X.1 X.2.1 dX12_ask_14 (by decide) (fun c_2 => ?_) (fun c_2 => ?_)
    · skip
      have hE := ite_t hE (b2i_y c_2)
      have ho := ite_tP ho (b2i_y c_2)
      refine lv_iconst (v := (-1)) X.1 X.2.1 dX12_ask_19 (by decide) ?_
      refine lv_istore_n (lv' := [(2, .int _), (0, .ref _), (1, .int _)]) X.1 X.2.1 dX12_ask_20 rfl hl (by decide) rfl (fun ls hl => ?_)
      refine lv_iconst (v := 0) X.1 X.2.1 dX12_ask_21 (by decide) ?_
      refine lv_istore_n (lv' := [(3, .int _), (2, .int _), (0, .ref _), (1, .int _)]) X.1 X.2.1 dX12_ask_22 rfl hl (by decide) rfl (fun ls hl => ?_)
      refine lv_iconst (v := 0) X.1 X.2.1 dX12_ask_23 (by decide) ?_
      refine lv_istore (lv' := [(4, .int _), (3, .int _), (2, .int _), (0, .ref _), (1, .int _)]) X.1 X.2.1 dX12_ask_24 hl (by decide) rfl (fun ls hl => ?_)
      exact c12_ask_c26 X _ _ _ _ _ _ _ _ _ _ I (lv_sub hl [3, 4, 2, 1, 0] rfl) ho (fu1_lt _) (hE.trans (rfl))
    · skip
      have hE := ite_f hE (b2i_n c_2)
      have ho := ite_fP ho (b2i_n c_2)
      refine lv_iconst (v := (-1)) X.1 X.2.1 dX12_ask_17 (by decide) ?_
      have h9 := hE
      exact r_iret X I (e_i (pr_fst h9) (pr_snd h9) rfl) dX12_ask_18
noncomputable def f12_claimOf (σ : SI) (x1 : Int32) (x2 : Int32) : Int32 × SI := let r0 := (f12_standsIf σ x1 (if ((σ 140 (Int32.toNatClampNeg ((0 : Int32) + x1))) + x2) < (30 : Int32) then ((σ 140 (Int32.toNatClampNeg ((0 : Int32) + x1))) + x2) else (30 : Int32)) (0 : Int32)); r0
noncomputable def o12_claimOf (σ : SI) (x1 : Int32) (x2 : Int32) : Prop := (vp_in ((0 : Int32) + x1) 255) ∧ ((o12_standsIf σ x1 (if ((σ 140 (Int32.toNatClampNeg ((0 : Int32) + x1))) + x2) < (30 : Int32) then ((σ 140 (Int32.toNatClampNeg ((0 : Int32) + x1))) + x2) else (30 : Int32)) (0 : Int32)) ∧ (let r0 := (f12_standsIf σ x1 (if ((σ 140 (Int32.toNatClampNeg ((0 : Int32) + x1))) + x2) < (30 : Int32) then ((σ 140 (Int32.toNatClampNeg ((0 : Int32) + x1))) + x2) else (30 : Int32)) (0 : Int32)); True))
theorem w_f12_claimOf (σ : SI) (x1 : Int32) (x2 : Int32) (a : Nat) (h0 : a ≠ 132) (h1 : a ≠ 133) : (f12_claimOf σ x1 x2).2 a = σ a := by
  refine fp_to2 ?_
  unfold f12_claimOf
  exact (w_f12_standsIf _ _ _ _ a h0 h1)
set_option maxHeartbeats 4000000 in
set_option maxRecDepth 100000 in
theorem c12_claimOf (l : Launch) (G : GT) (σ : SI) (τ : SL) (x1 : Int32) (x2 : Int32) (ho : o12_claimOf σ x1 x2) : Mc l yX12_claimOf cX12_claimOf 3 (some .int) 7 G [.ref (G.2.1 123), .int x1, .int x2] σ τ (Qi G (Ei (f12_claimOf σ x1 x2).1 (f12_claimOf σ x1 x2).2 τ)) := by
  refine m_start (by decide +kernel) (Nat.le_of_ble_eq_true rfl) rfl (fun p e s m args below meth c ls X I hl => ?_)
  have hl : lv_has ls 3 [(0, .ref (G.2.1 123)), (1, .int x1), (2, .int x2)] := hl
  obtain ⟨E, hE⟩ : ∃ E, E = (f12_claimOf σ x1 x2) := ⟨_, rfl⟩
  rw [← hE]
  unfold o12_claimOf at ho
  refine lv_aload_n X.1 X.2.1 dX12_claimOf_0 rfl (lv_at hl 0 rfl) ?_
  refine lv_iload_n X.1 X.2.1 dX12_claimOf_1 rfl (lv_at hl 1 rfl) ?_
  refine lv_bipush (v := 30) X.1 X.2.1 dX12_claimOf_2 (by decide) ?_
  refine lv_aload_n X.1 X.2.1 dX12_claimOf_4 rfl (lv_at hl 0 rfl) ?_
  refine g12_27 X I (k := 123) (by decide) rfl lf_X12_58 dX12_claimOf_5 ?_
  refine lv_iconst (v := 0) X.1 X.2.1 dX12_claimOf_8 (by decide) ?_
  refine lv_iload_n X.1 X.2.1 dX12_claimOf_9 rfl (lv_at hl 1 rfl) ?_
  refine lv_iadd X.1 X.2.1 dX12_claimOf_10 ?_
  have ho1 := ho.1
  have ho := ho.2
  refine r_ald X I (k := 140) (n := 255) (by decide) rfl ho1 dX12_claimOf_11 ?_
  refine lv_iload_n X.1 X.2.1 dX12_claimOf_12 rfl (lv_at hl 2 rfl) ?_
  refine lv_iadd X.1 X.2.1 dX12_claimOf_13 ?_
  refine r_mmin X hl.1 lm_X12_301 ls_J9_min_7cf53 ln_J9 lc_J9_min_7cf53 (Nat.le_of_ble_eq_true rfl) (Nat.le_of_ble_eq_true rfl) (Nat.le_refl 0) (Nat.le_refl 0) dX12_claimOf_14 ?_
  refine lv_iconst (v := 0) X.1 X.2.1 dX12_claimOf_17 (by decide) ?_
  have ho2 := ho.1
  have ho := ho.2
  refine r_ei I (r_runV X I pk_X12_standsIf (c12_standsIf l G _ _ _ _ _ ho2) lm_X12_323 (by decide) (cl_12 rfl) rfl rfl rfl hl.1 rfl (Nat.le_of_ble_eq_true rfl) dX12_claimOf_18 ⟨Nat.le_of_ble_eq_true rfl, Nat.le_of_ble_eq_true rfl⟩ ⟨Nat.le_refl 0, Nat.le_refl 0⟩) (fun H locs I => ?_)
  have h9 := hE
  exact r_iret X I (e_i (congrArg Prod.fst h9).symm (congrArg Prod.snd h9).symm rfl) dX12_claimOf_21
noncomputable def f12_gameOf (σ : SI) (x1 : Int32) (x2 : Int32) (x3 : Int32) : Int32 × SI := let r0 := (f12_claimOf σ x1 x2); if x3 ≤ x2 then (((r0.1 - (0 : Int32)) - (x2 / (2 : Int32))), r0.2) else (((r0.1 - (4 : Int32)) - (x2 / (2 : Int32))), r0.2)
noncomputable def o12_gameOf (σ : SI) (x1 : Int32) (x2 : Int32) (x3 : Int32) : Prop := (o12_claimOf σ x1 x2) ∧ (let r0 := (f12_claimOf σ x1 x2); if x3 ≤ x2 then True else True)
theorem w_f12_gameOf (σ : SI) (x1 : Int32) (x2 : Int32) (x3 : Int32) (a : Nat) (h0 : a ≠ 132) (h1 : a ≠ 133) : (f12_gameOf σ x1 x2 x3).2 a = σ a := by
  refine fp_to2 ?_
  unfold f12_gameOf
  exact (fr_ite2 (fr_mk21 (w_f12_claimOf _ _ _ a h0 h1)) (fr_mk21 (w_f12_claimOf _ _ _ a h0 h1)))
set_option maxHeartbeats 4000000 in
set_option maxRecDepth 100000 in
theorem c12_gameOf (l : Launch) (G : GT) (σ : SI) (τ : SL) (x1 : Int32) (x2 : Int32) (x3 : Int32) (ho : o12_gameOf σ x1 x2 x3) : Mc l yX12_gameOf cX12_gameOf 4 (some .int) 8 G [.ref (G.2.1 123), .int x1, .int x2, .int x3] σ τ (Qi G (Ei (f12_gameOf σ x1 x2 x3).1 (f12_gameOf σ x1 x2 x3).2 τ)) := by
  refine m_start (by decide +kernel) (Nat.le_of_ble_eq_true rfl) rfl (fun p e s m args below meth c ls X I hl => ?_)
  have hl : lv_has ls 4 [(0, .ref (G.2.1 123)), (1, .int x1), (2, .int x2), (3, .int x3)] := hl
  obtain ⟨E, hE⟩ : ∃ E, E = (f12_gameOf σ x1 x2 x3) := ⟨_, rfl⟩
  rw [← hE]
  unfold o12_gameOf at ho
  refine lv_aload_n X.1 X.2.1 dX12_gameOf_0 rfl (lv_at hl 0 rfl) ?_
  refine lv_iload_n X.1 X.2.1 dX12_gameOf_1 rfl (lv_at hl 1 rfl) ?_
  refine lv_iload_n X.1 X.2.1 dX12_gameOf_2 rfl (lv_at hl 2 rfl) ?_
  have ho1 := ho.1
  have ho := ho.2
  refine r_ei I (r_runV X I pk_X12_claimOf (c12_claimOf l G _ _ _ _ ho1) lm_X12_412 (by decide) (cl_12 rfl) rfl rfl rfl hl.1 rfl (Nat.le_of_ble_eq_true rfl) dX12_gameOf_3 ⟨Nat.le_of_ble_eq_true rfl, Nat.le_of_ble_eq_true rfl⟩ ⟨Nat.le_refl 0, Nat.le_refl 0⟩) (fun H locs I => ?_)
  refine lv_iload_n X.1 X.2.1 dX12_gameOf_6 rfl (lv_at hl 3 rfl) ?_
  refine lv_iload_n X.1 X.2.1 dX12_gameOf_7 rfl (lv_at hl 2 rfl) ?_
  refine lv_icmp_le (tgt := 15) X.1 X.2.1 dX12_gameOf_8 (by decide) (fun c_1 => ?_) (fun c_1 => ?_)
  · skip
    have hE := ite_t hE c_1
    have ho := ite_tP ho c_1
    refine lv_iconst (v := 0) X.1 X.2.1 dX12_gameOf_15 (by decide) ?_
    refine lv_isub X.1 X.2.1 dX12_gameOf_16 ?_
    refine lv_iload_n X.1 X.2.1 dX12_gameOf_17 rfl (lv_at hl 2 rfl) ?_
    refine lv_iconst (v := 2) X.1 X.2.1 dX12_gameOf_18 (by decide) ?_
    refine lv_idiv X.1 X.2.1 dX12_gameOf_19 (by decide) ?_
    refine lv_isub X.1 X.2.1 dX12_gameOf_20 ?_
    have h9 := hE
    exact r_iret X I (e_i (pr_fst h9) (pr_snd h9) rfl) dX12_gameOf_21
  · skip
    have hE := ite_f hE c_1
    have ho := ite_fP ho c_1
    refine lv_iconst (v := 4) X.1 X.2.1 dX12_gameOf_11 (by decide) ?_
    refine lv_goto (tgt := 16) X.1 X.2.1 dX12_gameOf_12 (by decide) ?_
    refine lv_isub X.1 X.2.1 dX12_gameOf_16 ?_
    refine lv_iload_n X.1 X.2.1 dX12_gameOf_17 rfl (lv_at hl 2 rfl) ?_
    refine lv_iconst (v := 2) X.1 X.2.1 dX12_gameOf_18 (by decide) ?_
    refine lv_idiv X.1 X.2.1 dX12_gameOf_19 (by decide) ?_
    refine lv_isub X.1 X.2.1 dX12_gameOf_20 ?_
    have h9 := hE
    exact r_iret X I (e_i (pr_fst h9) (pr_snd h9) rfl) dX12_gameOf_21
noncomputable def f12_areTwo (σ : SI) (x1 : Int32) (x2 : Int32) : Bool := if (f12_isHouse σ x1) = true then (if (f12_isHouse σ x2) = true then (if x1 = x2 then false else true) else false) else false
set_option maxHeartbeats 4000000 in
set_option maxRecDepth 100000 in
theorem c12_areTwo (l : Launch) (G : GT) (σ : SI) (τ : SL) (x1 : Int32) (x2 : Int32) : Mc l yX12_areTwo cX12_areTwo 3 (some .boolean) 2 G [.ref (G.2.1 123), .int x1, .int x2] σ τ (Qi G (Ei (b2i (f12_areTwo σ x1 x2)) σ τ)) := by
  refine m_start (by decide +kernel) (Nat.le_of_ble_eq_true rfl) rfl (fun p e s m args below meth c ls X I hl => ?_)
  have hl : lv_has ls 3 [(0, .ref (G.2.1 123)), (1, .int x1), (2, .int x2)] := hl
  obtain ⟨E, hE⟩ : ∃ E, E = (f12_areTwo σ x1 x2) := ⟨_, rfl⟩
  rw [← hE]
  refine lv_aload_n X.1 X.2.1 dX12_areTwo_0 rfl (lv_at hl 0 rfl) ?_
  refine lv_iload_n X.1 X.2.1 dX12_areTwo_1 rfl (lv_at hl 1 rfl) ?_
  refine r_ei I (r_runV X I pk_X12_isHouse (c12_isHouse l G _ _ _) lm_X12_332 (by decide) (cl_12 rfl) rfl rfl rfl hl.1 rfl (Nat.le_of_ble_eq_true rfl) dX12_areTwo_2 ⟨Nat.le_of_ble_eq_true rfl, Nat.le_of_ble_eq_true rfl⟩ ⟨Nat.le_refl 0, Nat.le_refl 0⟩) (fun H locs I => ?_)
  refine lv_if_eq (tgt := 25) X.1 X.2.1 dX12_areTwo_5 (by decide) (fun c_1 => ?_) (fun c_1 => ?_)
  · skip
    have hE := ite_f hE (b2i_n c_1)
    refine lv_iconst (v := 0) X.1 X.2.1 dX12_areTwo_25 (by decide) ?_
    have h9 := hE
    exact r_zret X I rfl (e_i (congrArg b2i h9).symm rfl rfl) dX12_areTwo_26
  · skip
    have hE := ite_t hE (b2i_y c_1)
    refine lv_aload_n X.1 X.2.1 dX12_areTwo_8 rfl (lv_at hl 0 rfl) ?_
    refine lv_iload_n X.1 X.2.1 dX12_areTwo_9 rfl (lv_at hl 2 rfl) ?_
    refine r_ei I (r_runV X I pk_X12_isHouse (c12_isHouse l G _ _ _) lm_X12_332 (by decide) (cl_12 rfl) rfl rfl rfl hl.1 rfl (Nat.le_of_ble_eq_true rfl) dX12_areTwo_10 ⟨Nat.le_of_ble_eq_true rfl, Nat.le_of_ble_eq_true rfl⟩ ⟨Nat.le_refl 0, Nat.le_refl 0⟩) (fun H locs I => ?_)
    refine lv_if_eq (tgt := 25) X.1 X.2.1 dX12_areTwo_13 (by decide) (fun c_2 => ?_) (fun c_2 => ?_)
    · skip
      have hE := ite_f hE (b2i_n c_2)
      refine lv_iconst (v := 0) X.1 X.2.1 dX12_areTwo_25 (by decide) ?_
      have h9 := hE
      exact r_zret X I rfl (e_i (congrArg b2i h9).symm rfl rfl) dX12_areTwo_26
    · skip
      have hE := ite_t hE (b2i_y c_2)
      refine lv_iload_n X.1 X.2.1 dX12_areTwo_16 rfl (lv_at hl 1 rfl) ?_
      refine lv_iload_n X.1 X.2.1 dX12_areTwo_17 rfl (lv_at hl 2 rfl) ?_
      refine lv_icmp_eq (tgt := 25) X.1 X.2.1 dX12_areTwo_18 (by decide) (fun c_3 => ?_) (fun c_3 => ?_)
      · skip
        have hE := ite_t hE c_3
        refine lv_iconst (v := 0) X.1 X.2.1 dX12_areTwo_25 (by decide) ?_
        have h9 := hE
        exact r_zret X I rfl (e_i (congrArg b2i h9).symm rfl rfl) dX12_areTwo_26
      · skip
        have hE := ite_f hE c_3
        refine lv_iconst (v := 1) X.1 X.2.1 dX12_areTwo_21 (by decide) ?_
        refine lv_goto (tgt := 26) X.1 X.2.1 dX12_areTwo_22 (by decide) ?_
        have h9 := hE
        exact r_zret X I rfl (e_i (congrArg b2i h9).symm rfl rfl) dX12_areTwo_26
noncomputable def f12_game (σ : SI) (x1 : Int32) (x2 : Int32) (x3 : Int32) (x4 : Int32) (x5 : Int32) : Int32 × SI := if (f12_areTwo σ x1 x2) = true then (if (f12_in x3 (0 : Int32) (9 : Int32)) = true then (if (f12_in x4 (0 : Int32) (9 : Int32)) = true then (if (f12_in x5 (0 : Int32) (1 : Int32)) = true then (if x5 = (0 : Int32) then (let r1 := (f12_gameOf σ x1 x3 x4); r1) else (let r0 := (f12_gameOf σ x2 x4 x3); r0)) else ((-1000000 : Int32), σ)) else ((-1000000 : Int32), σ)) else ((-1000000 : Int32), σ)) else ((-1000000 : Int32), σ)
noncomputable def o12_game (σ : SI) (x1 : Int32) (x2 : Int32) (x3 : Int32) (x4 : Int32) (x5 : Int32) : Prop := if (f12_areTwo σ x1 x2) = true then (if (f12_in x3 (0 : Int32) (9 : Int32)) = true then (if (f12_in x4 (0 : Int32) (9 : Int32)) = true then (if (f12_in x5 (0 : Int32) (1 : Int32)) = true then (if x5 = (0 : Int32) then ((o12_gameOf σ x1 x3 x4) ∧ (let r1 := (f12_gameOf σ x1 x3 x4); True)) else ((o12_gameOf σ x2 x4 x3) ∧ (let r0 := (f12_gameOf σ x2 x4 x3); True))) else True) else True) else True) else True
theorem w_f12_game (σ : SI) (x1 : Int32) (x2 : Int32) (x3 : Int32) (x4 : Int32) (x5 : Int32) (a : Nat) (h0 : a ≠ 132) (h1 : a ≠ 133) : (f12_game σ x1 x2 x3 x4 x5).2 a = σ a := by
  refine fp_to2 ?_
  unfold f12_game
  exact (fr_ite2 (fr_ite2 (fr_ite2 (fr_ite2 (fr_ite2 (w_f12_gameOf _ _ _ _ a h0 h1) (w_f12_gameOf _ _ _ _ a h0 h1)) (fr_mk21 rfl)) (fr_mk21 rfl)) (fr_mk21 rfl)) (fr_mk21 rfl))
set_option maxHeartbeats 4000000 in
set_option maxRecDepth 100000 in
theorem c12_game (l : Launch) (G : GT) (σ : SI) (τ : SL) (x1 : Int32) (x2 : Int32) (x3 : Int32) (x4 : Int32) (x5 : Int32) (ho : o12_game σ x1 x2 x3 x4 x5) : Mc l yX12_game cX12_game 6 (some .int) 9 G [.ref (G.2.1 123), .int x1, .int x2, .int x3, .int x4, .int x5] σ τ (Qi G (Ei (f12_game σ x1 x2 x3 x4 x5).1 (f12_game σ x1 x2 x3 x4 x5).2 τ)) := by
  refine m_start (by decide +kernel) (Nat.le_of_ble_eq_true rfl) rfl (fun p e s m args below meth c ls X I hl => ?_)
  have hl : lv_has ls 6 [(0, .ref (G.2.1 123)), (1, .int x1), (2, .int x2), (3, .int x3), (4, .int x4), (5, .int x5)] := hl
  obtain ⟨E, hE⟩ : ∃ E, E = (f12_game σ x1 x2 x3 x4 x5) := ⟨_, rfl⟩
  rw [← hE]
  unfold o12_game at ho
  refine lv_aload_n X.1 X.2.1 dX12_game_0 rfl (lv_at hl 0 rfl) ?_
  refine lv_iload_n X.1 X.2.1 dX12_game_1 rfl (lv_at hl 1 rfl) ?_
  refine lv_iload_n X.1 X.2.1 dX12_game_2 rfl (lv_at hl 2 rfl) ?_
  refine r_ei I (r_runV X I pk_X12_areTwo (c12_areTwo l G _ _ _ _) lm_X12_415 (by decide) (cl_12 rfl) rfl rfl rfl hl.1 rfl (Nat.le_of_ble_eq_true rfl) dX12_game_3 ⟨Nat.le_of_ble_eq_true rfl, Nat.le_of_ble_eq_true rfl⟩ ⟨Nat.le_refl 0, Nat.le_refl 0⟩) (fun H locs I => ?_)
  refine lv_if_eq (tgt := 40) X.1 X.2.1 dX12_game_6 (by decide) (fun c_1 => ?_) (fun c_1 => ?_)
  · skip
    have hE := ite_f hE (b2i_n c_1)
    have ho := ite_fP ho (b2i_n c_1)
    refine lv_ldcw X.1 X.2.1 (v := (-1000000)) X.2.2.2.2.1 (X.2.2.2.1 _ lq_X12_418) dX12_game_40 ?_
    have h9 := hE
    exact r_iret X I (e_i (pr_fst h9) (pr_snd h9) rfl) dX12_game_43
  · skip
    have hE := ite_t hE (b2i_y c_1)
    have ho := ite_tP ho (b2i_y c_1)
    refine lv_iload_n X.1 X.2.1 dX12_game_9 rfl (lv_at hl 3 rfl) ?_
    refine lv_iconst (v := 0) X.1 X.2.1 dX12_game_10 (by decide) ?_
    refine lv_bipush (v := 9) X.1 X.2.1 dX12_game_11 (by decide) ?_
    refine r_ei I (r_runS X I pk_X12_in (c12_in l G _ _ _ _ _) lm_X12_220 rfl hl.1 rfl (Nat.le_of_ble_eq_true rfl) dX12_game_13 ⟨Nat.le_of_ble_eq_true rfl, Nat.le_of_ble_eq_true rfl⟩ ⟨Nat.le_refl 0, Nat.le_refl 0⟩) (fun H locs I => ?_)
    refine lv_if_eq (tgt := 40) X.1 X.2.1 dX12_game_16 (by decide) (fun c_2 => ?_) (fun c_2 => ?_)
    · skip
      have hE := ite_f hE (b2i_n c_2)
      have ho := ite_fP ho (b2i_n c_2)
      refine lv_ldcw X.1 X.2.1 (v := (-1000000)) X.2.2.2.2.1 (X.2.2.2.1 _ lq_X12_418) dX12_game_40 ?_
      have h9 := hE
      exact r_iret X I (e_i (pr_fst h9) (pr_snd h9) rfl) dX12_game_43
    · skip
      have hE := ite_t hE (b2i_y c_2)
      have ho := ite_tP ho (b2i_y c_2)
      refine lv_iload X.1 X.2.1 dX12_game_19 (lv_at hl 4 rfl) ?_
      refine lv_iconst (v := 0) X.1 X.2.1 dX12_game_21 (by decide) ?_
      refine lv_bipush (v := 9) X.1 X.2.1 dX12_game_22 (by decide) ?_
      refine r_ei I (r_runS X I pk_X12_in (c12_in l G _ _ _ _ _) lm_X12_220 rfl hl.1 rfl (Nat.le_of_ble_eq_true rfl) dX12_game_24 ⟨Nat.le_of_ble_eq_true rfl, Nat.le_of_ble_eq_true rfl⟩ ⟨Nat.le_refl 0, Nat.le_refl 0⟩) (fun H locs I => ?_)
      refine lv_if_eq (tgt := 40) X.1 X.2.1 dX12_game_27 (by decide) (fun c_3 => ?_) (fun c_3 => ?_)
      · skip
        have hE := ite_f hE (b2i_n c_3)
        have ho := ite_fP ho (b2i_n c_3)
        refine lv_ldcw X.1 X.2.1 (v := (-1000000)) X.2.2.2.2.1 (X.2.2.2.1 _ lq_X12_418) dX12_game_40 ?_
        have h9 := hE
        exact r_iret X I (e_i (pr_fst h9) (pr_snd h9) rfl) dX12_game_43
      · skip
        have hE := ite_t hE (b2i_y c_3)
        have ho := ite_tP ho (b2i_y c_3)
        refine lv_iload X.1 X.2.1 dX12_game_30 (lv_at hl 5 rfl) ?_
        refine lv_iconst (v := 0) X.1 X.2.1 dX12_game_32 (by decide) ?_
        refine lv_iconst (v := 1) X.1 X.2.1 dX12_game_33 (by decide) ?_
        refine r_ei I (r_runS X I pk_X12_in (c12_in l G _ _ _ _ _) lm_X12_220 rfl hl.1 rfl (Nat.le_of_ble_eq_true rfl) dX12_game_34 ⟨Nat.le_of_ble_eq_true rfl, Nat.le_of_ble_eq_true rfl⟩ ⟨Nat.le_refl 0, Nat.le_refl 0⟩) (fun H locs I => ?_)
        refine lv_if_ne (tgt := 44) X.1 X.2.1 dX12_game_37 (by decide) (fun c_4 => ?_) (fun c_4 => ?_)
        · skip
          have hE := ite_t hE (b2i_y c_4)
          have ho := ite_tP ho (b2i_y c_4)
          refine lv_iload X.1 X.2.1 dX12_game_44 (lv_at hl 5 rfl) ?_
          refine lv_if_ne (tgt := 60) X.1 X.2.1 dX12_game_46 (by decide) (fun c_5 => ?_) (fun c_5 => ?_)
          · skip
            have hE := ite_f hE c_5
            have ho := ite_fP ho c_5
            refine lv_aload_n X.1 X.2.1 dX12_game_60 rfl (lv_at hl 0 rfl) ?_
            refine lv_iload_n X.1 X.2.1 dX12_game_61 rfl (lv_at hl 2 rfl) ?_
            refine lv_iload X.1 X.2.1 dX12_game_62 (lv_at hl 4 rfl) ?_
            refine lv_iload_n X.1 X.2.1 dX12_game_64 rfl (lv_at hl 3 rfl) ?_
            have ho1 := ho.1
            have ho := ho.2
            refine r_ei I (r_runV X I pk_X12_gameOf (c12_gameOf l G _ _ _ _ _ ho1) lm_X12_419 (by decide) (cl_12 rfl) rfl rfl rfl hl.1 rfl (Nat.le_of_ble_eq_true rfl) dX12_game_65 ⟨Nat.le_of_ble_eq_true rfl, Nat.le_of_ble_eq_true rfl⟩ ⟨Nat.le_refl 0, Nat.le_refl 0⟩) (fun H locs I => ?_)
            have h9 := hE
            exact r_iret X I (e_i (congrArg Prod.fst h9).symm (congrArg Prod.snd h9).symm rfl) dX12_game_68
          · skip
            have hE := ite_t hE c_5
            have ho := ite_tP ho c_5
            refine lv_aload_n X.1 X.2.1 dX12_game_49 rfl (lv_at hl 0 rfl) ?_
            refine lv_iload_n X.1 X.2.1 dX12_game_50 rfl (lv_at hl 1 rfl) ?_
            refine lv_iload_n X.1 X.2.1 dX12_game_51 rfl (lv_at hl 3 rfl) ?_
            refine lv_iload X.1 X.2.1 dX12_game_52 (lv_at hl 4 rfl) ?_
            have ho2 := ho.1
            have ho := ho.2
            refine r_ei I (r_runV X I pk_X12_gameOf (c12_gameOf l G _ _ _ _ _ ho2) lm_X12_419 (by decide) (cl_12 rfl) rfl rfl rfl hl.1 rfl (Nat.le_of_ble_eq_true rfl) dX12_game_54 ⟨Nat.le_of_ble_eq_true rfl, Nat.le_of_ble_eq_true rfl⟩ ⟨Nat.le_refl 0, Nat.le_refl 0⟩) (fun H locs I => ?_)
            refine lv_goto (tgt := 68) X.1 X.2.1 dX12_game_57 (by decide) ?_
            have h9 := hE
            exact r_iret X I (e_i (congrArg Prod.fst h9).symm (congrArg Prod.snd h9).symm rfl) dX12_game_68
        · skip
          have hE := ite_f hE (b2i_n c_4)
          have ho := ite_fP ho (b2i_n c_4)
          refine lv_ldcw X.1 X.2.1 (v := (-1000000)) X.2.2.2.2.1 (X.2.2.2.1 _ lq_X12_418) dX12_game_40 ?_
          have h9 := hE
          exact r_iret X I (e_i (pr_fst h9) (pr_snd h9) rfl) dX12_game_43
