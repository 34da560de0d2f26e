noncomputable def f9_reads_c16 : Nat → Int32 → SI → (Bool × SI)
  | 0, _, σ => (false, σ)
  | fu + 1, v1, σ => if (240 : Int32) ≤ v1 then (let r2 := (f7_fails σ); r2) else (let r3 := (f9_readsClause σ); if r3.1 = true then (let r4 := (f7_peek r3.2); if r4.1 = (-1 : Int32) then (if (f8_isWhole 4 r4.2) = true then (true, r4.2) else (let r6 := (f7_failsAtEnd r4.2); if r6.1 = true then (true, r6.2) else (false, r6.2))) else (let r5 := (f7_takes r4.2 (59 : Int32)); if r5.1 = true then (f9_reads_c16 fu (v1 + 1) r5.2) else (false, r5.2))) else (false, r3.2))
noncomputable def f9_reads (σ : SI) : Bool × SI := let s0 := (f7_rewind σ); let s1 := (f8_clear 4 s0); (f9_reads_c16 (fu1 ((Int32.toInt (240 : Int32) - Int32.toInt (0 : Int32)).toNat)) (0 : Int32) s1)
theorem w_f9_reads_c16 (a : Nat) (h0 : a ≠ 1) (h1 : a ≠ 5) (h2 : a ≠ 6) : ∀ (fu : Nat) (v1 : Int32) (σ : SI), (f9_reads_c16 fu v1 σ).2 a = σ a := by
  intro fu
  induction fu with
  | zero => intro v1 σ; exact rfl
  | succ fu ih =>
    intro v1 σ
    refine fp_to2 ?_
    unfold f9_reads_c16
    exact (fr_ite2 (w_f7_fails _ a h0) (fr_ite2 (fr_ite2 (fr_ite2 (fr_mk21 ((w_f7_peek _ a h0).trans (w_f9_readsClause _ a h0 h1 h2))) (fr_ite2 (fr_mk21 ((w_f7_failsAtEnd _ a h0).trans ((w_f7_peek _ a h0).trans (w_f9_readsClause _ a h0 h1 h2)))) (fr_mk21 ((w_f7_failsAtEnd _ a h0).trans ((w_f7_peek _ a h0).trans (w_f9_readsClause _ a h0 h1 h2)))))) (fr_ite2 (fp_of2 (((ih _ _).trans ((w_f7_takes _ _ a h0).trans ((w_f7_peek _ a h0).trans (w_f9_readsClause _ a h0 h1 h2)))))) (fr_mk21 ((w_f7_takes _ _ a h0).trans ((w_f7_peek _ a h0).trans (w_f9_readsClause _ a h0 h1 h2)))))) (fr_mk21 (w_f9_readsClause _ a h0 h1 h2))))
theorem w_f9_reads (σ : SI) (a : Nat) (h0 : a ≠ 1) (h1 : a ≠ 5) (h2 : a ≠ 6) : (f9_reads σ).2 a = σ a := by
  refine fp_to2 ?_
  unfold f9_reads
  exact (fp_of2 (((w_f9_reads_c16 a h0 h1 h2 _ _ _).trans ((w_f8_clear _ a h1 h2).trans (w_f7_rewind _ a h0)))))
set_option maxHeartbeats 4000000 in
set_option maxRecDepth 100000 in
theorem c9_reads_c16 {l : Launch} {p : Program} {e : Env} {s : State} {m : MethodId} {args : Array Value} {below : List Frame} {meth : Method} {c : Code} {G : GT} (X : CX p s m args meth c cX9_reads RX9 2 (some .boolean) G) {E : Bool × SI} (τ : SL) : ∀ (fu : Nat) (v1 : Int32) (σ : SI) (H : Heap) (locs : List Loc) (ls : Array Slot), IX G s H locs σ τ → lv_has ls 2 [(0, .ref (G.2.1 3)), (1, .int v1)] → (Int32.toInt (240 : Int32) - Int32.toInt v1).toNat < fu → E = (f9_reads_c16 fu v1 σ) → W p l e (rmN 5) s m args below meth c H locs 0 0 (MQ below ((Qi G (Ei (b2i E.1) E.2 τ)) s.heap.size) args s 0 0 (AW G s.heap.size)) (F0 m 16 ls []) := by
  intro fu
  induction fu with
  | zero =>
    intro v1 σ H locs ls I hl  hm hE
    exact absurd hm (Nat.not_lt_zero _)
  | succ fu ih =>
    intro v1 σ H locs ls I hl  hm hE
    refine lv_iload_n X.1 X.2.1 dX9_reads_16 rfl (lv_at hl 1 rfl) ?_
    refine lv_sipush (v := 240) X.1 X.2.1 dX9_reads_17 (by decide) ?_
    refine lv_icmp_ge (tgt := 89) X.1 X.2.1 dX9_reads_20 (by decide) (fun c_1 => ?_) (fun c_1 => ?_)
    · skip
      have hE := ite_t hE c_1
      refine lv_aload_n X.1 X.2.1 dX9_reads_89 rfl (lv_at hl 0 rfl) ?_
      refine g9_0 X I (k := 3) (by decide) rfl lf_X9_9 dX9_reads_90 ?_
      refine r_ei I (r_runV X I pk_X7_fails (c7_fails l G _ _) lm_X9_48 (by decide) (cl_7 rfl) rfl rfl rfl hl.1 rfl (Nat.le_of_ble_eq_true rfl) dX9_reads_93 ⟨Nat.le_of_ble_eq_true rfl, Nat.le_of_ble_eq_true rfl⟩ ⟨Nat.le_refl 0, Nat.le_refl 0⟩) (fun H locs I => ?_)
      have h9 := hE
      exact r_zret X I (b2i_nar _) (e_i (congrArg b2i (congrArg Prod.fst h9)).symm (congrArg Prod.snd h9).symm rfl) dX9_reads_96
    · skip
      have hE := ite_f hE c_1
      refine lv_aload_n X.1 X.2.1 dX9_reads_23 rfl (lv_at hl 0 rfl) ?_
      refine r_ei I (r_runV X I pk_X9_readsClause (c9_readsClause l G _ _) lm_X9_30 (by decide) (cl_9 rfl) rfl rfl rfl hl.1 rfl (Nat.le_of_ble_eq_true rfl) dX9_reads_24 ⟨Nat.le_of_ble_eq_true rfl, Nat.le_of_ble_eq_true rfl⟩ ⟨Nat.le_refl 0, Nat.le_refl 0⟩) (fun H locs I => ?_)
      refine lv_if_ne (tgt := 32) X.1 X.2.1 dX9_reads_27 (by decide) (fun c_2 => ?_) (fun c_2 => ?_)
      · skip
        have hE := ite_t hE (b2i_y c_2)
        refine lv_aload_n X.1 X.2.1 dX9_reads_32 rfl (lv_at hl 0 rfl) ?_
        refine g9_0 X I (k := 3) (by decide) rfl lf_X9_9 dX9_reads_33 ?_
        refine r_ei I (r_runV X I pk_X7_peek (c7_peek l G _ _) lm_X9_34 (by decide) (cl_7 rfl) rfl rfl rfl hl.1 rfl (Nat.le_of_ble_eq_true rfl) dX9_reads_36 ⟨Nat.le_of_ble_eq_true rfl, Nat.le_of_ble_eq_true rfl⟩ ⟨Nat.le_refl 0, Nat.le_refl 0⟩) (fun H locs I => ?_)
        refine lv_iconst (v := (-1)) X.1 X.2.1 dX9_reads_39 (by decide) ?_
        refine lv_icmp_ne (tgt := 69) X.1 X.2.1 dX9_reads_40 (by decide) (fun c_3 => ?_) (fun c_3 => ?_)
        · skip
          have hE := ite_f hE c_3
          refine lv_aload_n X.1 X.2.1 dX9_reads_69 rfl (lv_at hl 0 rfl) ?_
          refine g9_0 X I (k := 3) (by decide) rfl lf_X9_9 dX9_reads_70 ?_
          refine lv_bipush (v := 59) X.1 X.2.1 dX9_reads_73 (by decide) ?_
          refine r_ei I (r_runV X I pk_X7_takes (c7_takes l G _ _ _) lm_X9_44 (by decide) (cl_7 rfl) rfl rfl rfl hl.1 rfl (Nat.le_of_ble_eq_true rfl) dX9_reads_75 ⟨Nat.le_of_ble_eq_true rfl, Nat.le_of_ble_eq_true rfl⟩ ⟨Nat.le_refl 0, Nat.le_refl 0⟩) (fun H locs I => ?_)
          refine lv_if_ne (tgt := 83) X.1 X.2.1 dX9_reads_78 (by decide) (fun c_4 => ?_) (fun c_4 => ?_)
          · skip
            have hE := ite_t hE (b2i_y c_4)
            refine lv_iinc (v := _ + 1) (lv' := [(1, .int _), (0, .ref _)]) X.1 X.2.1 dX9_reads_83 hl (k := 1) rfl rfl (by decide) rfl (fun ls hl => ?_)
            refine lv_goto (tgt := 16) X.1 X.2.1 dX9_reads_86 (by decide) ?_
            exact ih _ _ _ _ _ I (lv_sub hl [1, 0] rfl) (Nat.lt_of_lt_of_le (up_dec c_1) (Nat.le_of_lt_succ hm)) (hE.trans (rfl))
          · skip
            have hE := ite_f hE (b2i_n c_4)
            refine lv_iconst (v := 0) X.1 X.2.1 dX9_reads_81 (by decide) ?_
            have h9 := hE
            exact r_zret X I rfl (e_i (congrArg b2i (pr_fst (a := false) h9)) (pr_snd h9) rfl) dX9_reads_82
        · skip
          have hE := ite_t hE c_3
          refine lv_aload_n X.1 X.2.1 dX9_reads_43 rfl (lv_at hl 0 rfl) ?_
          refine g9_1 X I (k := 3) (by decide) rfl lf_X9_18 dX9_reads_44 ?_
          refine r_ei I (r_runV X I pk_X8_isWhole (c8_isWhole l G (k := 4) ⟨by decide, rfl, rfl, rfl⟩ _ _) lm_X9_38 (by decide) (cl_8 rfl) rfl rfl rfl hl.1 rfl (Nat.le_of_ble_eq_true rfl) dX9_reads_47 ⟨Nat.le_of_ble_eq_true rfl, Nat.le_of_ble_eq_true rfl⟩ ⟨Nat.le_refl 0, Nat.le_refl 0⟩) (fun H locs I => ?_)
          refine lv_if_ne (tgt := 63) X.1 X.2.1 dX9_reads_50 (by decide) (fun c_5 => ?_) (fun c_5 => ?_)
          · skip
            have hE := ite_t hE (b2i_y c_5)
            refine lv_iconst (v := 1) X.1 X.2.1 dX9_reads_63 (by decide) ?_
            refine lv_goto (tgt := 68) X.1 X.2.1 dX9_reads_64 (by decide) ?_
            have h9 := hE
            exact r_zret X I rfl (e_i (congrArg b2i (pr_fst (a := true) h9)) (pr_snd h9) rfl) dX9_reads_68
          · skip
            have hE := ite_f hE (b2i_n c_5)
            refine lv_aload_n X.1 X.2.1 dX9_reads_53 rfl (lv_at hl 0 rfl) ?_
            refine g9_0 X I (k := 3) (by decide) rfl lf_X9_9 dX9_reads_54 ?_
            refine r_ei I (r_runV X I pk_X7_failsAtEnd (c7_failsAtEnd l G _ _) lm_X9_41 (by decide) (cl_7 rfl) rfl rfl rfl hl.1 rfl (Nat.le_of_ble_eq_true rfl) dX9_reads_57 ⟨Nat.le_of_ble_eq_true rfl, Nat.le_of_ble_eq_true rfl⟩ ⟨Nat.le_refl 0, Nat.le_refl 0⟩) (fun H locs I => ?_)
            refine lv_if_eq (tgt := 67) X.1 X.2.1 dX9_reads_60 (by decide) (fun c_6 => ?_) (fun c_6 => ?_)
            · skip
              have hE := ite_f hE (b2i_n c_6)
              refine lv_iconst (v := 0) X.1 X.2.1 dX9_reads_67 (by decide) ?_
              have h9 := hE
              exact r_zret X I rfl (e_i (congrArg b2i (pr_fst (a := false) h9)) (pr_snd h9) rfl) dX9_reads_68
            · skip
              have hE := ite_t hE (b2i_y c_6)
              refine lv_iconst (v := 1) X.1 X.2.1 dX9_reads_63 (by decide) ?_
              refine lv_goto (tgt := 68) X.1 X.2.1 dX9_reads_64 (by decide) ?_
              have h9 := hE
              exact r_zret X I rfl (e_i (congrArg b2i (pr_fst (a := true) h9)) (pr_snd h9) rfl) dX9_reads_68
      · skip
        have hE := ite_f hE (b2i_n c_2)
        refine lv_iconst (v := 0) X.1 X.2.1 dX9_reads_30 (by decide) ?_
        have h9 := hE
        exact r_zret X I rfl (e_i (congrArg b2i (pr_fst (a := false) h9)) (pr_snd h9) rfl) dX9_reads_31
set_option maxHeartbeats 4000000 in
set_option maxRecDepth 100000 in
theorem c9_reads (l : Launch) (G : GT) (σ : SI) (τ : SL) : Mc l yX9_reads cX9_reads 2 (some .boolean) 5 G [.ref (G.2.1 3)] σ τ (Qi G (Ei (b2i (f9_reads σ).1) (f9_reads σ).2 τ)) := by
  refine m_start (by decide +kernel) (Nat.le_of_ble_eq_true rfl) rfl (fun p e s m args below meth c ls X I hl => ?_)
  have hl : lv_has ls 2 [(0, .ref (G.2.1 3))] := hl
  obtain ⟨E, hE⟩ : ∃ E, E = (f9_reads σ) := ⟨_, rfl⟩
  rw [← hE]
  refine lv_aload_n X.1 X.2.1 dX9_reads_0 rfl (lv_at hl 0 rfl) ?_
  refine g9_0 X I (k := 3) (by decide) rfl lf_X9_9 dX9_reads_1 ?_
  refine r_ev I (r_runV X I pk_X7_rewind (c7_rewind l G _ _) lm_X9_22 (by decide) (cl_7 rfl) rfl rfl rfl hl.1 rfl (Nat.le_of_ble_eq_true rfl) dX9_reads_4 ⟨Nat.le_of_ble_eq_true rfl, Nat.le_of_ble_eq_true rfl⟩ ⟨Nat.le_refl 0, Nat.le_refl 0⟩) (fun H locs I => ?_)
  refine lv_aload_n X.1 X.2.1 dX9_reads_7 rfl (lv_at hl 0 rfl) ?_
  refine g9_1 X I (k := 3) (by decide) rfl lf_X9_18 dX9_reads_8 ?_
  refine r_ev I (r_runV X I pk_X8_clear (c8_clear l G (k := 4) ⟨by decide, rfl, rfl, rfl⟩ _ _) lm_X9_27 (by decide) (cl_8 rfl) rfl rfl rfl hl.1 rfl (Nat.le_of_ble_eq_true rfl) dX9_reads_11 ⟨Nat.le_of_ble_eq_true rfl, Nat.le_of_ble_eq_true rfl⟩ ⟨Nat.le_refl 0, Nat.le_refl 0⟩) (fun H locs I => ?_)
  refine lv_iconst (v := 0) X.1 X.2.1 dX9_reads_14 (by decide) ?_
  refine lv_istore_n (lv' := [(1, .int _), (0, .ref _)]) X.1 X.2.1 dX9_reads_15 rfl hl (by decide) rfl (fun ls hl => ?_)
  exact c9_reads_c16 X _  _ _ _ _ _ _ I (lv_sub hl [1, 0] rfl) (fu1_lt _) (hE.trans (rfl))
noncomputable def f10_forget (σ : SI) : SI := let s0 := sp σ 33 2 (0 : Int32); let s1 := sp s0 33 3 (0 : Int32); s1
theorem w_f10_forget (σ : SI) (a : Nat) (h0 : a ≠ 33) : (f10_forget σ) a = σ a := by
  unfold f10_forget
  exact ((sp_n h0).trans (sp_n h0))
set_option maxHeartbeats 4000000 in
set_option maxRecDepth 100000 in
theorem c10_forget (l : Launch) (G : GT) (σ : SI) (τ : SL) : Mc l yX10_forget cX10_forget 1 none 0 G [.ref (G.2.1 33)] σ τ (Qv G (Ev (f10_forget σ) τ)) := by
  refine m_start (by decide +kernel) (Nat.le_of_ble_eq_true rfl) rfl (fun p e s m args below meth c ls X I hl => ?_)
  have hl : lv_has ls 1 [(0, .ref (G.2.1 33))] := hl
  obtain ⟨E, hE⟩ : ∃ E, E = (f10_forget σ) := ⟨_, rfl⟩
  rw [← hE]
  refine lv_aload_n X.1 X.2.1 dX10_forget_0 rfl (lv_at hl 0 rfl) ?_
  refine lv_iconst (v := 0) X.1 X.2.1 dX10_forget_1 (by decide) ?_
  refine p10_2 X I (k := 33) (by decide) rfl lf_X10_18 dX10_forget_2 (fun H locs I => ?_)
  refine lv_aload_n X.1 X.2.1 dX10_forget_5 rfl (lv_at hl 0 rfl) ?_
  refine lv_iconst (v := 0) X.1 X.2.1 dX10_forget_6 (by decide) ?_
  refine p10_3 X I (k := 33) (by decide) rfl lf_X10_22 dX10_forget_7 (fun H locs I => ?_)
  have h9 := hE
  exact r_vret X I (e_v h9.symm rfl) dX10_forget_10
noncomputable def f10_tell (k : Nat) (n : Nat) (σ : SI) (x1 : Int32) (x2 : Int32) (x3 : Int32) (x4 : Int32) : SI := let s0 := (f11_setCell k n σ (x1 * (3 : Int32)) x2); let s1 := (f11_setCell k n s0 ((x1 * (3 : Int32)) + (1 : Int32)) x3); let s2 := (f11_setCell k n s1 ((x1 * (3 : Int32)) + (2 : Int32)) x4); s2
theorem w_f10_tell {k : Nat} {n : Nat} (σ : SI) (x1 : Int32) (x2 : Int32) (x3 : Int32) (x4 : Int32) (a : Nat) (h0 : a ≠ k) : (f10_tell k n σ x1 x2 x3 x4) a = σ a := by
  unfold f10_tell
  exact ((w_f11_setCell _ _ _ a h0).trans ((w_f11_setCell _ _ _ a h0).trans (w_f11_setCell _ _ _ a h0)))
set_option maxHeartbeats 4000000 in
set_option maxRecDepth 100000 in
theorem c10_tell (l : Launch) (G : GT) {k n : Nat} (hk : k < NW) (hd : kd k = 100 + n) (hn : n < 2 ^ 31) (σ : SI) (τ : SL) (x1 : Int32) (x2 : Int32) (x3 : Int32) (x4 : Int32) : Mc l yX10_tell cX10_tell 5 none 1 G [.ref (G.2.1 k), .int x1, .int x2, .int x3, .int x4] σ τ (Qv G (Ev (f10_tell k n σ x1 x2 x3 x4) τ)) := by
  refine m_start (by decide +kernel) (Nat.le_of_ble_eq_true rfl) rfl (fun p e s m args below meth c ls X I hl => ?_)
  have hl : lv_has ls 5 [(0, .ref (G.2.1 k)), (1, .int x1), (2, .int x2), (3, .int x3), (4, .int x4)] := hl
  obtain ⟨E, hE⟩ : ∃ E, E = (f10_tell k n σ x1 x2 x3 x4) := ⟨_, rfl⟩
  rw [← hE]
  refine lv_aload_n X.1 X.2.1 dX10_tell_0 rfl (lv_at hl 0 rfl) ?_
  refine lv_iload_n X.1 X.2.1 dX10_tell_1 rfl (lv_at hl 1 rfl) ?_
  refine lv_iconst (v := 3) X.1 X.2.1 dX10_tell_2 (by decide) ?_
  refine lv_imul X.1 X.2.1 dX10_tell_3 ?_
  refine lv_iload_n X.1 X.2.1 dX10_tell_4 rfl (lv_at hl 2 rfl) ?_
  refine r_ev I (r_runN X I pk_X11_setCell (c11_setCell l G (k := k) (n := n) hk hd hn _ _ _ _) (by decide +kernel) rfl hl.1 rfl (Nat.le_of_ble_eq_true rfl) dX10_tell_5 ⟨Nat.le_of_ble_eq_true rfl, Nat.le_of_ble_eq_true rfl⟩ ⟨Nat.le_refl 0, Nat.le_refl 0⟩) (fun H locs I => ?_)
  refine lv_aload_n X.1 X.2.1 dX10_tell_8 rfl (lv_at hl 0 rfl) ?_
  refine lv_iload_n X.1 X.2.1 dX10_tell_9 rfl (lv_at hl 1 rfl) ?_
  refine lv_iconst (v := 3) X.1 X.2.1 dX10_tell_10 (by decide) ?_
  refine lv_imul X.1 X.2.1 dX10_tell_11 ?_
  refine lv_iconst (v := 1) X.1 X.2.1 dX10_tell_12 (by decide) ?_
  refine lv_iadd X.1 X.2.1 dX10_tell_13 ?_
  refine lv_iload_n X.1 X.2.1 dX10_tell_14 rfl (lv_at hl 3 rfl) ?_
  refine r_ev I (r_runN X I pk_X11_setCell (c11_setCell l G (k := k) (n := n) hk hd hn _ _ _ _) (by decide +kernel) rfl hl.1 rfl (Nat.le_of_ble_eq_true rfl) dX10_tell_15 ⟨Nat.le_of_ble_eq_true rfl, Nat.le_of_ble_eq_true rfl⟩ ⟨Nat.le_refl 0, Nat.le_refl 0⟩) (fun H locs I => ?_)
  refine lv_aload_n X.1 X.2.1 dX10_tell_18 rfl (lv_at hl 0 rfl) ?_
  refine lv_iload_n X.1 X.2.1 dX10_tell_19 rfl (lv_at hl 1 rfl) ?_
  refine lv_iconst (v := 3) X.1 X.2.1 dX10_tell_20 (by decide) ?_
  refine lv_imul X.1 X.2.1 dX10_tell_21 ?_
  refine lv_iconst (v := 2) X.1 X.2.1 dX10_tell_22 (by decide) ?_
  refine lv_iadd X.1 X.2.1 dX10_tell_23 ?_
  refine lv_iload X.1 X.2.1 dX10_tell_24 (lv_at hl 4 rfl) ?_
  refine r_ev I (r_runN X I pk_X11_setCell (c11_setCell l G (k := k) (n := n) hk hd hn _ _ _ _) (by decide +kernel) rfl hl.1 rfl (Nat.le_of_ble_eq_true rfl) dX10_tell_26 ⟨Nat.le_of_ble_eq_true rfl, Nat.le_of_ble_eq_true rfl⟩ ⟨Nat.le_refl 0, Nat.le_refl 0⟩) (fun H locs I => ?_)
  have h9 := hE
  exact r_vret X I (e_v h9.symm rfl) dX10_tell_29
noncomputable def f10_tellStood (σ : SI) (x1 : Int32) (x2 : Int32) (x3 : Int32) : Int32 × SI := if (σ 33 2) < (10 : Int32) then (let s0 := (f10_tell 34 30 σ (σ 33 2) x1 x2 x3); let s1 := sp s0 33 2 ((s0 33 2) + (1 : Int32)); (((s0 33 2) + (1 : Int32)), s1)) else ((-1 : Int32), σ)
theorem w_f10_tellStood (σ : SI) (x1 : Int32) (x2 : Int32) (x3 : Int32) (a : Nat) (h0 : a ≠ 33) (h1 : a ≠ 34) : (f10_tellStood σ x1 x2 x3).2 a = σ a := by
  refine fp_to2 ?_
  unfold f10_tellStood
  exact (fr_ite2 (fr_mk21 ((sp_n h0).trans (w_f10_tell _ _ _ _ _ a h1))) (fr_mk21 rfl))
set_option maxHeartbeats 4000000 in
set_option maxRecDepth 100000 in
theorem c10_tellStood (l : Launch) (G : GT) (σ : SI) (τ : SL) (x1 : Int32) (x2 : Int32) (x3 : Int32) : Mc l yX10_tellStood cX10_tellStood 4 (some .int) 2 G [.ref (G.2.1 33), .int x1, .int x2, .int x3] σ τ (Qi G (Ei (f10_tellStood σ x1 x2 x3).1 (f10_tellStood σ x1 x2 x3).2 τ)) := by
  refine m_start (by decide +kernel) (Nat.le_of_ble_eq_true rfl) rfl (fun p e s m args below meth c ls X I hl => ?_)
  have hl : lv_has ls 4 [(0, .ref (G.2.1 33)), (1, .int x1), (2, .int x2), (3, .int x3)] := hl
  obtain ⟨E, hE⟩ : ∃ E, E = (f10_tellStood σ x1 x2 x3) := ⟨_, rfl⟩
  rw [← hE]
  refine lv_aload_n X.1 X.2.1 dX10_tellStood_0 rfl (lv_at hl 0 rfl) ?_
  refine g10_2 X I (k := 33) (by decide) rfl lf_X10_18 dX10_tellStood_1 ?_
  refine lv_bipush (v := 10) X.1 X.2.1 dX10_tellStood_4 (by decide) ?_
  refine lv_icmp_lt (tgt := 11) X.1 X.2.1 dX10_tellStood_6 (by decide) (fun c_1 => ?_) (fun c_1 => ?_)
  · skip
    have hE := ite_t hE c_1
    refine lv_aload_n X.1 X.2.1 dX10_tellStood_11 rfl (lv_at hl 0 rfl) ?_
    refine g10_0 X I (k := 33) (by decide) rfl lf_X10_11 dX10_tellStood_12 ?_
    refine lv_aload_n X.1 X.2.1 dX10_tellStood_15 rfl (lv_at hl 0 rfl) ?_
    refine g10_2 X I (k := 33) (by decide) rfl lf_X10_18 dX10_tellStood_16 ?_
    refine lv_iload_n X.1 X.2.1 dX10_tellStood_19 rfl (lv_at hl 1 rfl) ?_
    refine lv_iload_n X.1 X.2.1 dX10_tellStood_20 rfl (lv_at hl 2 rfl) ?_
    refine lv_iload_n X.1 X.2.1 dX10_tellStood_21 rfl (lv_at hl 3 rfl) ?_
    refine r_ev I (r_runS X I pk_X10_tell (c10_tell l G (k := 34) (n := 30) (by decide) rfl (by decide) _ _ _ _ _ _) lm_X10_25 rfl hl.1 rfl (Nat.le_of_ble_eq_true rfl) dX10_tellStood_22 ⟨Nat.le_of_ble_eq_true rfl, Nat.le_of_ble_eq_true rfl⟩ ⟨Nat.le_refl 0, Nat.le_refl 0⟩) (fun H locs I => ?_)
    refine lv_aload_n X.1 X.2.1 dX10_tellStood_25 rfl (lv_at hl 0 rfl) ?_
    refine lv_dup X.1 X.2.1 dX10_tellStood_26 rfl ?_
    refine g10_2 X I (k := 33) (by decide) rfl lf_X10_18 dX10_tellStood_27 ?_
    refine lv_iconst (v := 1) X.1 X.2.1 dX10_tellStood_30 (by decide) ?_
    refine lv_iadd X.1 X.2.1 dX10_tellStood_31 ?_
    refine p10_2 X I (k := 33) (by decide) rfl lf_X10_18 dX10_tellStood_32 (fun H locs I => ?_)
    refine lv_aload_n X.1 X.2.1 dX10_tellStood_35 rfl (lv_at hl 0 rfl) ?_
    refine g10_2 X I (k := 33) (by decide) rfl lf_X10_18 dX10_tellStood_36 ?_
    have h9 := hE
    exact r_iret X I (e_i (pr_fst h9) (pr_snd h9) rfl) dX10_tellStood_39
  · skip
    have hE := ite_f hE c_1
    refine lv_iconst (v := (-1)) X.1 X.2.1 dX10_tellStood_9 (by decide) ?_
    have h9 := hE
    exact r_iret X I (e_i (pr_fst h9) (pr_snd h9) rfl) dX10_tellStood_10
noncomputable def f10_tellSeen (σ : SI) (x1 : Int32) (x2 : Int32) (x3 : Bool) : Int32 × SI := if (σ 33 3) < (10 : Int32) then (if x3 = true then (let s2 := (f10_tell 35 30 σ (σ 33 3) x1 x2 (1 : Int32)); let s3 := sp s2 33 3 ((s2 33 3) + (1 : Int32)); (((s2 33 3) + (1 : Int32)), s3)) else (let s0 := (f10_tell 35 30 σ (σ 33 3) x1 x2 (0 : Int32)); let s1 := sp s0 33 3 ((s0 33 3) + (1 : Int32)); (((s0 33 3) + (1 : Int32)), s1))) else ((-1 : Int32), σ)
theorem w_f10_tellSeen (σ : SI) (x1 : Int32) (x2 : Int32) (x3 : Bool) (a : Nat) (h0 : a ≠ 33) (h1 : a ≠ 35) : (f10_tellSeen σ x1 x2 x3).2 a = σ a := by
  refine fp_to2 ?_
  unfold f10_tellSeen
  exact (fr_ite2 (fr_ite2 (fr_mk21 ((sp_n h0).trans (w_f10_tell _ _ _ _ _ a h1))) (fr_mk21 ((sp_n h0).trans (w_f10_tell _ _ _ _ _ a h1)))) (fr_mk21 rfl))
set_option maxHeartbeats 4000000 in
set_option maxRecDepth 100000 in
theorem c10_tellSeen (l : Launch) (G : GT) (σ : SI) (τ : SL) (x1 : Int32) (x2 : Int32) (x3 : Bool) : Mc l yX10_tellSeen cX10_tellSeen 4 (some .int) 2 G [.ref (G.2.1 33), .int x1, .int x2, .int (b2i x3)] σ τ (Qi G (Ei (f10_tellSeen σ x1 x2 x3).1 (f10_tellSeen σ x1 x2 x3).2 τ)) := by
  refine m_start (by decide +kernel) (Nat.le_of_ble_eq_true rfl) rfl (fun p e s m args below meth c ls X I hl => ?_)
  have hl : lv_has ls 4 [(0, .ref (G.2.1 33)), (1, .int x1), (2, .int x2), (3, .int (b2i x3))] := hl
  obtain ⟨E, hE⟩ : ∃ E, E = (f10_tellSeen σ x1 x2 x3) := ⟨_, rfl⟩
  rw [← hE]
  refine lv_aload_n X.1 X.2.1 dX10_tellSeen_0 rfl (lv_at hl 0 rfl) ?_
  refine g10_3 X I (k := 33) (by decide) rfl lf_X10_22 dX10_tellSeen_1 ?_
  refine lv_bipush (v := 10) X.1 X.2.1 dX10_tellSeen_4 (by decide) ?_
  refine lv_icmp_lt (tgt := 11) X.1 X.2.1 dX10_tellSeen_6 (by decide) (fun c_1 => ?_) (fun c_1 => ?_)
  · skip
    have hE := ite_t hE c_1
    refine lv_aload_n X.1 X.2.1 dX10_tellSeen_11 rfl (lv_at hl 0 rfl) ?_
    refine g10_1 X I (k := 33) (by decide) rfl lf_X10_15 dX10_tellSeen_12 ?_
    refine lv_aload_n X.1 X.2.1 dX10_tellSeen_15 rfl (lv_at hl 0 rfl) ?_
    refine g10_3 X I (k := 33) (by decide) rfl lf_X10_22 dX10_tellSeen_16 ?_
    refine lv_iload_n X.1 X.2.1 dX10_tellSeen_19 rfl (lv_at hl 1 rfl) ?_
    refine lv_iload_n X.1 X.2.1 dX10_tellSeen_20 rfl (lv_at hl 2 rfl) ?_
    refine lv_iload_n X.1 X.2.1 dX10_tellSeen_21 rfl (lv_at hl 3 rfl) ?_
    refine lv_if_eq (tgt := 29) X.1 X.2.1 dX10_tellSeen_22 (by decide) (fun c_2 => ?_) (fun c_2 => ?_)
    · skip
      have hE := ite_f hE (b2i_n c_2)
      refine lv_iconst (v := 0) X.1 X.2.1 dX10_tellSeen_29 (by decide) ?_
      refine r_ev I (r_runS X I pk_X10_tell (c10_tell l G (k := 35) (n := 30) (by decide) rfl (by decide) _ _ _ _ _ _) lm_X10_25 rfl hl.1 rfl (Nat.le_of_ble_eq_true rfl) dX10_tellSeen_30 ⟨Nat.le_of_ble_eq_true rfl, Nat.le_of_ble_eq_true rfl⟩ ⟨Nat.le_refl 0, Nat.le_refl 0⟩) (fun H locs I => ?_)
      refine lv_aload_n X.1 X.2.1 dX10_tellSeen_33 rfl (lv_at hl 0 rfl) ?_
      refine lv_dup X.1 X.2.1 dX10_tellSeen_34 rfl ?_
      refine g10_3 X I (k := 33) (by decide) rfl lf_X10_22 dX10_tellSeen_35 ?_
      refine lv_iconst (v := 1) X.1 X.2.1 dX10_tellSeen_38 (by decide) ?_
      refine lv_iadd X.1 X.2.1 dX10_tellSeen_39 ?_
      refine p10_3 X I (k := 33) (by decide) rfl lf_X10_22 dX10_tellSeen_40 (fun H locs I => ?_)
      refine lv_aload_n X.1 X.2.1 dX10_tellSeen_43 rfl (lv_at hl 0 rfl) ?_
      refine g10_3 X I (k := 33) (by decide) rfl lf_X10_22 dX10_tellSeen_44 ?_
      have h9 := hE
      exact r_iret X I (e_i (pr_fst h9) (pr_snd h9) rfl) dX10_tellSeen_47
    · skip
      have hE := ite_t hE (b2i_y c_2)
      refine lv_iconst (v := 1) X.1 X.2.1 dX10_tellSeen_25 (by decide) ?_
      refine lv_goto (tgt := 30) X.1 X.2.1 dX10_tellSeen_26 (by decide) ?_
      refine r_ev I (r_runS X I pk_X10_tell (c10_tell l G (k := 35) (n := 30) (by decide) rfl (by decide) _ _ _ _ _ _) lm_X10_25 rfl hl.1 rfl (Nat.le_of_ble_eq_true rfl) dX10_tellSeen_30 ⟨Nat.le_of_ble_eq_true rfl, Nat.le_of_ble_eq_true rfl⟩ ⟨Nat.le_refl 0, Nat.le_refl 0⟩) (fun H locs I => ?_)
      refine lv_aload_n X.1 X.2.1 dX10_tellSeen_33 rfl (lv_at hl 0 rfl) ?_
      refine lv_dup X.1 X.2.1 dX10_tellSeen_34 rfl ?_
      refine g10_3 X I (k := 33) (by decide) rfl lf_X10_22 dX10_tellSeen_35 ?_
      refine lv_iconst (v := 1) X.1 X.2.1 dX10_tellSeen_38 (by decide) ?_
      refine lv_iadd X.1 X.2.1 dX10_tellSeen_39 ?_
      refine p10_3 X I (k := 33) (by decide) rfl lf_X10_22 dX10_tellSeen_40 (fun H locs I => ?_)
      refine lv_aload_n X.1 X.2.1 dX10_tellSeen_43 rfl (lv_at hl 0 rfl) ?_
      refine g10_3 X I (k := 33) (by decide) rfl lf_X10_22 dX10_tellSeen_44 ?_
      have h9 := hE
      exact r_iret X I (e_i (pr_fst h9) (pr_snd h9) rfl) dX10_tellSeen_47
  · skip
    have hE := ite_f hE c_1
    refine lv_iconst (v := (-1)) X.1 X.2.1 dX10_tellSeen_9 (by decide) ?_
    have h9 := hE
    exact r_iret X I (e_i (pr_fst h9) (pr_snd h9) rfl) dX10_tellSeen_10
