noncomputable def f7_peek_c0 : Nat → SI → (Int32 × SI)
  | 0, σ => (0, σ)
  | fu + 1, σ => if (σ 1 2) < (0 : Int32) then ((-1 : Int32), σ) else (if (σ 1 1) ≤ (σ 1 2) then ((-1 : Int32), σ) else (if (240 : Int32) ≤ (σ 1 2) then ((-1 : Int32), σ) else (if (σ 2 (Int32.toNatClampNeg (σ 1 2))) = (32 : Int32) then (let s0 := sp σ 1 2 ((σ 1 2) + (1 : Int32)); (f7_peek_c0 fu s0)) else ((σ 2 (Int32.toNatClampNeg (σ 1 2))), σ))))
noncomputable def f7_peek (σ : SI) : Int32 × SI := (f7_peek_c0 (fu1 ((Int32.toInt (σ 1 1) - Int32.toInt (σ 1 2)).toNat)) σ)
theorem w_f7_peek_c0 (a : Nat) (h0 : a ≠ 1) : ∀ (fu : Nat) (σ : SI), (f7_peek_c0 fu σ).2 a = σ a := by
  intro fu
  induction fu with
  | zero => intro σ; exact rfl
  | succ fu ih =>
    intro σ
    refine fp_to2 ?_
    unfold f7_peek_c0
    exact (fr_ite2 (fr_mk21 rfl) (fr_ite2 (fr_mk21 rfl) (fr_ite2 (fr_mk21 rfl) (fr_ite2 (fp_of2 (((ih _).trans (sp_n h0)))) (fr_mk21 rfl)))))
theorem w_f7_peek (σ : SI) (a : Nat) (h0 : a ≠ 1) : (f7_peek σ).2 a = σ a := by
  refine fp_to2 ?_
  unfold f7_peek
  exact (fp_of2 ((w_f7_peek_c0 a h0 _ _)))
set_option maxHeartbeats 4000000 in
set_option maxRecDepth 100000 in
theorem c7_peek_c0 {l : Launch} {p : Program} {e : Env} {s : State} {m : MethodId} {args : Array Value} {below : List Frame} {meth : Method} {c : Code} {G : GT} (X : CX p s m args meth c cX7_peek RX7 1 (some .int) G) {E : Int32 × SI} (τ : SL) : ∀ (fu : Nat) (σ : SI) (H : Heap) (locs : List Loc) (ls : Array Slot), IX G s H locs σ τ → lv_has ls 1 [(0, .ref (G.2.1 1))] → (Int32.toInt (σ 1 1) - Int32.toInt (σ 1 2)).toNat < fu → E = (f7_peek_c0 fu σ) → W p l e (rmN 0) s m args below meth c H locs 0 0 (MQ below ((Qi G (Ei E.1 E.2 τ)) s.heap.size) args s 0 0 (AW G s.heap.size)) (F0 m 0 ls []) := by
  intro fu
  induction fu with
  | zero =>
    intro σ H locs ls I hl  hm hE
    exact absurd hm (Nat.not_lt_zero _)
  | succ fu ih =>
    intro σ H locs ls I hl  hm hE
    refine lv_aload_n X.1 X.2.1 dX7_peek_0 rfl (lv_at hl 0 rfl) ?_
    refine g7_2 X I (k := 1) (by decide) rfl lf_X7_22 dX7_peek_1 ?_
    refine lv_if_lt (tgt := 67) X.1 X.2.1 dX7_peek_4 (by decide) (fun c_1 => ?_) (fun c_1 => ?_)
    · skip
      have hE := ite_t hE c_1
      refine lv_iconst (v := (-1)) X.1 X.2.1 dX7_peek_67 (by decide) ?_
      have h9 := hE
      exact r_iret X I (e_i (pr_fst h9) (pr_snd h9) rfl) dX7_peek_68
    · skip
      have hE := ite_f hE c_1
      refine lv_aload_n X.1 X.2.1 dX7_peek_7 rfl (lv_at hl 0 rfl) ?_
      refine g7_2 X I (k := 1) (by decide) rfl lf_X7_22 dX7_peek_8 ?_
      refine lv_aload_n X.1 X.2.1 dX7_peek_11 rfl (lv_at hl 0 rfl) ?_
      refine g7_1 X I (k := 1) (by decide) rfl lf_X7_19 dX7_peek_12 ?_
      refine lv_icmp_ge (tgt := 67) X.1 X.2.1 dX7_peek_15 (by decide) (fun c_2 => ?_) (fun c_2 => ?_)
      · skip
        have hE := ite_t hE c_2
        refine lv_iconst (v := (-1)) X.1 X.2.1 dX7_peek_67 (by decide) ?_
        have h9 := hE
        exact r_iret X I (e_i (pr_fst h9) (pr_snd h9) rfl) dX7_peek_68
      · skip
        have hE := ite_f hE c_2
        refine lv_aload_n X.1 X.2.1 dX7_peek_18 rfl (lv_at hl 0 rfl) ?_
        refine g7_2 X I (k := 1) (by decide) rfl lf_X7_22 dX7_peek_19 ?_
        refine lv_aload_n X.1 X.2.1 dX7_peek_22 rfl (lv_at hl 0 rfl) ?_
        refine g7_0 X I (k := 1) (by decide) rfl lf_X7_9 dX7_peek_23 ?_
        refine r_alen X I (k := 2) (n := 240) (by decide) rfl (v := 240) rfl dX7_peek_26 ?_
        refine lv_icmp_ge (tgt := 67) X.1 X.2.1 dX7_peek_27 (by decide) (fun c_3 => ?_) (fun c_3 => ?_)
        · skip
          have hE := ite_t hE c_3
          refine lv_iconst (v := (-1)) X.1 X.2.1 dX7_peek_67 (by decide) ?_
          have h9 := hE
          exact r_iret X I (e_i (pr_fst h9) (pr_snd h9) rfl) dX7_peek_68
        · skip
          have hE := ite_f hE c_3
          refine lv_aload_n X.1 X.2.1 dX7_peek_30 rfl (lv_at hl 0 rfl) ?_
          refine g7_0 X I (k := 1) (by decide) rfl lf_X7_9 dX7_peek_31 ?_
          refine lv_aload_n X.1 X.2.1 dX7_peek_34 rfl (lv_at hl 0 rfl) ?_
          refine g7_2 X I (k := 1) (by decide) rfl lf_X7_22 dX7_peek_35 ?_
          refine r_ald X I (k := 2) (n := 240) (by decide) rfl (vp_g (n := 240) (by decide) c_1 c_3) dX7_peek_38 ?_
          refine lv_bipush (v := 32) X.1 X.2.1 dX7_peek_39 (by decide) ?_
          refine lv_icmp_eq (tgt := 54) X.1 X.2.1 dX7_peek_41 (by decide) (fun c_4 => ?_) (fun c_4 => ?_)
          · skip
            have hE := ite_t hE c_4
            refine lv_aload_n X.1 X.2.1 dX7_peek_54 rfl (lv_at hl 0 rfl) ?_
            refine lv_dup X.1 X.2.1 dX7_peek_55 rfl ?_
            refine g7_2 X I (k := 1) (by decide) rfl lf_X7_22 dX7_peek_56 ?_
            refine lv_iconst (v := 1) X.1 X.2.1 dX7_peek_59 (by decide) ?_
            refine lv_iadd X.1 X.2.1 dX7_peek_60 ?_
            refine p7_2 X I (k := 1) (by decide) rfl lf_X7_22 dX7_peek_61 (fun H locs I => ?_)
            refine lv_goto (tgt := 0) X.1 X.2.1 dX7_peek_64 (by decide) ?_
            exact ih _ _ _ _ I (lv_sub hl [0] rfl) (Nat.lt_of_lt_of_le (up_dec c_2) (Nat.le_of_lt_succ hm)) (hE.trans (rfl))
          · skip
            have hE := ite_f hE c_4
            refine lv_aload_n X.1 X.2.1 dX7_peek_44 rfl (lv_at hl 0 rfl) ?_
            refine g7_0 X I (k := 1) (by decide) rfl lf_X7_9 dX7_peek_45 ?_
            refine lv_aload_n X.1 X.2.1 dX7_peek_48 rfl (lv_at hl 0 rfl) ?_
            refine g7_2 X I (k := 1) (by decide) rfl lf_X7_22 dX7_peek_49 ?_
            refine r_ald X I (k := 2) (n := 240) (by decide) rfl (vp_g (n := 240) (by decide) c_1 c_3) dX7_peek_52 ?_
            have h9 := hE
            exact r_iret X I (e_i (pr_fst h9) (pr_snd h9) rfl) dX7_peek_53
set_option maxHeartbeats 4000000 in
set_option maxRecDepth 100000 in
theorem c7_peek (l : Launch) (G : GT) (σ : SI) (τ : SL) : Mc l yX7_peek cX7_peek 1 (some .int) 0 G [.ref (G.2.1 1)] σ τ (Qi G (Ei (f7_peek σ).1 (f7_peek σ).2 τ)) := by
  refine m_start (by decide +kernel) (Nat.le_of_ble_eq_true rfl) rfl (fun p e s m args below meth c ls X I hl => ?_)
  have hl : lv_has ls 1 [(0, .ref (G.2.1 1))] := hl
  obtain ⟨E, hE⟩ : ∃ E, E = (f7_peek σ) := ⟨_, rfl⟩
  rw [← hE]
  exact c7_peek_c0 X _  _ _ _ _ _ I (lv_sub hl [0] rfl) (fu1_lt _) (hE.trans (rfl))
noncomputable def f7_signAtHead (σ : SI) : Int32 := if (σ 1 2) < (0 : Int32) then (-1 : Int32) else (if (σ 1 1) ≤ (σ 1 2) then (-1 : Int32) else (if (240 : Int32) ≤ (σ 1 2) then (-1 : Int32) else (σ 2 (Int32.toNatClampNeg (σ 1 2)))))
set_option maxHeartbeats 4000000 in
set_option maxRecDepth 100000 in
theorem c7_signAtHead (l : Launch) (G : GT) (σ : SI) (τ : SL) : Mc l yX7_signAtHead cX7_signAtHead 1 (some .int) 0 G [.ref (G.2.1 1)] σ τ (Qi G (Ei (f7_signAtHead σ) σ τ)) := by
  refine m_start (by decide +kernel) (Nat.le_of_ble_eq_true rfl) rfl (fun p e s m args below meth c ls X I hl => ?_)
  have hl : lv_has ls 1 [(0, .ref (G.2.1 1))] := hl
  obtain ⟨E, hE⟩ : ∃ E, E = (f7_signAtHead σ) := ⟨_, rfl⟩
  rw [← hE]
  refine lv_aload_n X.1 X.2.1 dX7_signAtHead_0 rfl (lv_at hl 0 rfl) ?_
  refine g7_2 X I (k := 1) (by decide) rfl lf_X7_22 dX7_signAtHead_1 ?_
  refine lv_if_lt (tgt := 42) X.1 X.2.1 dX7_signAtHead_4 (by decide) (fun c_1 => ?_) (fun c_1 => ?_)
  · skip
    have hE := ite_t hE c_1
    refine lv_iconst (v := (-1)) X.1 X.2.1 dX7_signAtHead_42 (by decide) ?_
    have h9 := hE
    exact r_iret X I (e_i h9.symm rfl rfl) dX7_signAtHead_43
  · skip
    have hE := ite_f hE c_1
    refine lv_aload_n X.1 X.2.1 dX7_signAtHead_7 rfl (lv_at hl 0 rfl) ?_
    refine g7_2 X I (k := 1) (by decide) rfl lf_X7_22 dX7_signAtHead_8 ?_
    refine lv_aload_n X.1 X.2.1 dX7_signAtHead_11 rfl (lv_at hl 0 rfl) ?_
    refine g7_1 X I (k := 1) (by decide) rfl lf_X7_19 dX7_signAtHead_12 ?_
    refine lv_icmp_ge (tgt := 42) X.1 X.2.1 dX7_signAtHead_15 (by decide) (fun c_2 => ?_) (fun c_2 => ?_)
    · skip
      have hE := ite_t hE c_2
      refine lv_iconst (v := (-1)) X.1 X.2.1 dX7_signAtHead_42 (by decide) ?_
      have h9 := hE
      exact r_iret X I (e_i h9.symm rfl rfl) dX7_signAtHead_43
    · skip
      have hE := ite_f hE c_2
      refine lv_aload_n X.1 X.2.1 dX7_signAtHead_18 rfl (lv_at hl 0 rfl) ?_
      refine g7_2 X I (k := 1) (by decide) rfl lf_X7_22 dX7_signAtHead_19 ?_
      refine lv_aload_n X.1 X.2.1 dX7_signAtHead_22 rfl (lv_at hl 0 rfl) ?_
      refine g7_0 X I (k := 1) (by decide) rfl lf_X7_9 dX7_signAtHead_23 ?_
      refine r_alen X I (k := 2) (n := 240) (by decide) rfl (v := 240) rfl dX7_signAtHead_26 ?_
      refine lv_icmp_ge (tgt := 42) X.1 X.2.1 dX7_signAtHead_27 (by decide) (fun c_3 => ?_) (fun c_3 => ?_)
      · skip
        have hE := ite_t hE c_3
        refine lv_iconst (v := (-1)) X.1 X.2.1 dX7_signAtHead_42 (by decide) ?_
        have h9 := hE
        exact r_iret X I (e_i h9.symm rfl rfl) dX7_signAtHead_43
      · skip
        have hE := ite_f hE c_3
        refine lv_aload_n X.1 X.2.1 dX7_signAtHead_30 rfl (lv_at hl 0 rfl) ?_
        refine g7_0 X I (k := 1) (by decide) rfl lf_X7_9 dX7_signAtHead_31 ?_
        refine lv_aload_n X.1 X.2.1 dX7_signAtHead_34 rfl (lv_at hl 0 rfl) ?_
        refine g7_2 X I (k := 1) (by decide) rfl lf_X7_22 dX7_signAtHead_35 ?_
        refine r_ald X I (k := 2) (n := 240) (by decide) rfl (vp_g (n := 240) (by decide) c_1 c_3) dX7_signAtHead_38 ?_
        refine lv_goto (tgt := 43) X.1 X.2.1 dX7_signAtHead_39 (by decide) ?_
        have h9 := hE
        exact r_iret X I (e_i h9.symm rfl rfl) dX7_signAtHead_43
noncomputable def f7_takeNumber_c21 (x1 : Int32) : Nat → Int32 → Int32 → SI → (Int32 × SI)
  | 0, _, _, σ => (0, σ)
  | fu + 1, v2, v3, σ => if x1 < v3 then (let r1 := (f7_fails σ); ((-1 : Int32), r1.2)) else (if (f11_isDigit (f7_signAtHead σ)) = true then (if x1 ≤ v3 then (f7_takeNumber_c21 x1 fu ((((if v2 < (0 : Int32) then (0 : Int32) else v2) * (10 : Int32)) + (f7_signAtHead σ)) - (48 : Int32)) (v3 + 1) σ) else (let s2 := (f7_pass σ); (f7_takeNumber_c21 x1 fu ((((if v2 < (0 : Int32) then (0 : Int32) else v2) * (10 : Int32)) + (f7_signAtHead σ)) - (48 : Int32)) (v3 + 1) s2))) else (v2, σ))
noncomputable def f7_takeNumber (σ : SI) (x1 : Int32) : Int32 × SI := let r0 := (f7_peek σ); if (f11_isDigit r0.1) = true then (f7_takeNumber_c21 x1 (fu1 ((Int32.toInt x1 + 1 - Int32.toInt (0 : Int32)).toNat)) (-1 : Int32) (0 : Int32) r0.2) else (let r3 := (f7_fails r0.2); ((-1 : Int32), r3.2))
theorem w_f7_takeNumber_c21 (x1 : Int32) (a : Nat) (h0 : a ≠ 1) : ∀ (fu : Nat) (v2 : Int32) (v3 : Int32) (σ : SI), (f7_takeNumber_c21 x1 fu v2 v3 σ).2 a = σ a := by
  intro fu
  induction fu with
  | zero => intro v2 v3 σ; exact rfl
  | succ fu ih =>
    intro v2 v3 σ
    refine fp_to2 ?_
    unfold f7_takeNumber_c21
    exact (fr_ite2 (fr_mk21 (w_f7_fails _ a h0)) (fr_ite2 (fr_ite2 (fp_of2 ((ih _ _ _))) (fp_of2 (((ih _ _ _).trans (w_f7_pass _ a h0))))) (fr_mk21 rfl)))
theorem w_f7_takeNumber (σ : SI) (x1 : Int32) (a : Nat) (h0 : a ≠ 1) : (f7_takeNumber σ x1).2 a = σ a := by
  refine fp_to2 ?_
  unfold f7_takeNumber
  exact (fr_ite2 (fp_of2 (((w_f7_takeNumber_c21 _ a h0 _ _ _ _).trans (w_f7_peek _ a h0)))) (fr_mk21 ((w_f7_fails _ a h0).trans (w_f7_peek _ a h0))))
set_option maxHeartbeats 4000000 in
set_option maxRecDepth 100000 in
theorem c7_takeNumber_c21 {l : Launch} {p : Program} {e : Env} {s : State} {m : MethodId} {args : Array Value} {below : List Frame} {meth : Method} {c : Code} {G : GT} (X : CX p s m args meth c cX7_takeNumber RX7 5 (some .int) G) {E : Int32 × SI} (τ : SL) (x1 : Int32) (hB : Int32.toInt x1 < 2147483647) : ∀ (fu : Nat) (v2 : Int32) (v3 : Int32) (σ : SI) (H : Heap) (locs : List Loc) (ls : Array Slot), IX G s H locs σ τ → lv_has ls 5 [(0, .ref (G.2.1 1)), (1, .int x1), (2, .int v2), (3, .int v3)] → (Int32.toInt x1 + 1 - Int32.toInt v3).toNat < fu → E = (f7_takeNumber_c21 x1 fu v2 v3 σ) → W p l e (rmN 1) s m args below meth c H locs 0 0 (MQ below ((Qi G (Ei E.1 E.2 τ)) s.heap.size) args s 0 0 (AW G s.heap.size)) (F0 m 21 ls []) := by
  intro fu
  induction fu with
  | zero =>
    intro v2 v3 σ H locs ls I hl  hm hE
    exact absurd hm (Nat.not_lt_zero _)
  | succ fu ih =>
    intro v2 v3 σ H locs ls I hl  hm hE
    refine lv_iload_n X.1 X.2.1 dX7_takeNumber_21 rfl (lv_at hl 3 rfl) ?_
    refine lv_iload_n X.1 X.2.1 dX7_takeNumber_22 rfl (lv_at hl 1 rfl) ?_
    refine lv_icmp_gt (tgt := 72) X.1 X.2.1 dX7_takeNumber_23 (by decide) (fun c_2 => ?_) (fun c_2 => ?_)
    · skip
      have hE := ite_t hE c_2
      refine lv_aload_n X.1 X.2.1 dX7_takeNumber_72 rfl (lv_at hl 0 rfl) ?_
      refine r_ei I (r_runV X I pk_X7_fails (c7_fails l G _ _) lm_X7_29 (by decide) (cl_7 rfl) rfl rfl rfl hl.1 rfl (Nat.le_of_ble_eq_true rfl) dX7_takeNumber_73 ⟨Nat.le_of_ble_eq_true rfl, Nat.le_of_ble_eq_true rfl⟩ ⟨Nat.le_refl 0, Nat.le_refl 0⟩) (fun H locs I => ?_)
      refine lv_pop X.1 X.2.1 dX7_takeNumber_76 rfl ?_
      refine lv_iconst (v := (-1)) X.1 X.2.1 dX7_takeNumber_77 (by decide) ?_
      have h9 := hE
      exact r_iret X I (e_i (pr_fst h9) (pr_snd h9) rfl) dX7_takeNumber_78
    · skip
      have hE := ite_f hE c_2
      refine lv_aload_n X.1 X.2.1 dX7_takeNumber_26 rfl (lv_at hl 0 rfl) ?_
      refine r_ei I (r_runV X I pk_X7_signAtHead (c7_signAtHead l G _ _) lm_X7_40 (by decide) (cl_7 rfl) rfl rfl rfl hl.1 rfl (Nat.le_of_ble_eq_true rfl) dX7_takeNumber_27 ⟨Nat.le_of_ble_eq_true rfl, Nat.le_of_ble_eq_true rfl⟩ ⟨Nat.le_refl 0, Nat.le_refl 0⟩) (fun H locs I => ?_)
      refine lv_istore (lv' := [(4, .int _), (0, .ref _), (1, .int _), (2, .int _), (3, .int _)]) X.1 X.2.1 dX7_takeNumber_30 hl (by decide) rfl (fun ls hl => ?_)
      refine lv_iload X.1 X.2.1 dX7_takeNumber_32 (lv_at hl 0 rfl) ?_
      refine r_ei I (r_runN X I pk_X11_isDigit (c11_isDigit l G _ _ _) (by decide +kernel) rfl hl.1 rfl (Nat.le_of_ble_eq_true rfl) dX7_takeNumber_34 ⟨Nat.le_of_ble_eq_true rfl, Nat.le_of_ble_eq_true rfl⟩ ⟨Nat.le_refl 0, Nat.le_refl 0⟩) (fun H locs I => ?_)
      refine lv_if_ne (tgt := 42) X.1 X.2.1 dX7_takeNumber_37 (by decide) (fun c_3 => ?_) (fun c_3 => ?_)
      · skip
        have hE := ite_t hE (b2i_y c_3)
        refine lv_iload_n X.1 X.2.1 dX7_takeNumber_42 rfl (lv_at hl 3 rfl) ?_
        refine lv_iconst (v := 0) X.1 X.2.1 dX7_takeNumber_43 (by decide) ?_
        refine r_mmax X hl.1 lm_X7_43 ls_J9_max_7cf53 ln_J9 lc_J9_max_7cf53 (Nat.le_of_ble_eq_true rfl) (Nat.le_of_ble_eq_true rfl) (Nat.le_refl 0) (Nat.le_refl 0) dX7_takeNumber_44 ?_
        refine lv_bipush (v := 10) X.1 X.2.1 dX7_takeNumber_47 (by decide) ?_
        refine lv_imul X.1 X.2.1 dX7_takeNumber_49 ?_
        refine lv_iload X.1 X.2.1 dX7_takeNumber_50 (lv_at hl 0 rfl) ?_
        refine lv_iadd X.1 X.2.1 dX7_takeNumber_52 ?_
        refine lv_bipush (v := 48) X.1 X.2.1 dX7_takeNumber_53 (by decide) ?_
        refine lv_isub X.1 X.2.1 dX7_takeNumber_55 ?_
        refine lv_istore_n (lv' := [(2, .int _), (4, .int _), (0, .ref _), (1, .int _), (3, .int _)]) X.1 X.2.1 dX7_takeNumber_56 rfl hl (by decide) rfl (fun ls hl => ?_)
        refine lv_iload_n X.1 X.2.1 dX7_takeNumber_57 rfl (lv_at hl 4 rfl) ?_
        refine lv_iload_n X.1 X.2.1 dX7_takeNumber_58 rfl (lv_at hl 3 rfl) ?_
        refine lv_icmp_ge (tgt := 66) X.1 X.2.1 dX7_takeNumber_59 (by decide) (fun c_4 => ?_) (fun c_4 => ?_)
        · skip
          have hE := ite_t hE c_4
          refine lv_iinc (v := _ + 1) (lv' := [(3, .int _), (2, .int _), (4, .int _), (0, .ref _), (1, .int _)]) X.1 X.2.1 dX7_takeNumber_66 hl (k := 4) rfl rfl (by decide) rfl (fun ls hl => ?_)
          refine lv_goto (tgt := 21) X.1 X.2.1 dX7_takeNumber_69 (by decide) ?_
          exact ih _ _ _ _ _ _ I (lv_sub hl [3, 4, 1, 0] rfl) (Nat.lt_of_lt_of_le (up_decE hB c_2) (Nat.le_of_lt_succ hm)) (hE.trans (rfl))
        · skip
          have hE := ite_f hE c_4
          refine lv_aload_n X.1 X.2.1 dX7_takeNumber_62 rfl (lv_at hl 2 rfl) ?_
          refine r_ev I (r_runV X I pk_X7_pass (c7_pass l G _ _) lm_X7_33 (by decide) (cl_7 rfl) rfl rfl rfl hl.1 rfl (Nat.le_of_ble_eq_true rfl) dX7_takeNumber_63 ⟨Nat.le_of_ble_eq_true rfl, Nat.le_of_ble_eq_true rfl⟩ ⟨Nat.le_refl 0, Nat.le_refl 0⟩) (fun H locs I => ?_)
          refine lv_iinc (v := _ + 1) (lv' := [(3, .int _), (2, .int _), (4, .int _), (0, .ref _), (1, .int _)]) X.1 X.2.1 dX7_takeNumber_66 hl (k := 4) rfl rfl (by decide) rfl (fun ls hl => ?_)
          refine lv_goto (tgt := 21) X.1 X.2.1 dX7_takeNumber_69 (by decide) ?_
          exact ih _ _ _ _ _ _ I (lv_sub hl [3, 4, 1, 0] rfl) (Nat.lt_of_lt_of_le (up_decE hB c_2) (Nat.le_of_lt_succ hm)) (hE.trans (rfl))
      · skip
        have hE := ite_f hE (b2i_n c_3)
        refine lv_iload_n X.1 X.2.1 dX7_takeNumber_40 rfl (lv_at hl 3 rfl) ?_
        have h9 := hE
        exact r_iret X I (e_i (pr_fst h9) (pr_snd h9) rfl) dX7_takeNumber_41
set_option maxHeartbeats 4000000 in
set_option maxRecDepth 100000 in
theorem c7_takeNumber (l : Launch) (G : GT) (σ : SI) (τ : SL) (x1 : Int32) (hB : Int32.toInt x1 < 2147483647) : Mc l yX7_takeNumber cX7_takeNumber 5 (some .int) 1 G [.ref (G.2.1 1), .int x1] σ τ (Qi G (Ei (f7_takeNumber σ x1).1 (f7_takeNumber σ x1).2 τ)) := by
  refine m_start (by decide +kernel) (Nat.le_of_ble_eq_true rfl) rfl (fun p e s m args below meth c ls X I hl => ?_)
  have hl : lv_has ls 5 [(0, .ref (G.2.1 1)), (1, .int x1)] := hl
  obtain ⟨E, hE⟩ : ∃ E, E = (f7_takeNumber σ x1) := ⟨_, rfl⟩
  rw [← hE]
  refine lv_iconst (v := (-1)) X.1 X.2.1 dX7_takeNumber_0 (by decide) ?_
  refine lv_istore_n (lv' := [(2, .int _), (0, .ref _), (1, .int _)]) X.1 X.2.1 dX7_takeNumber_1 rfl hl (by decide) rfl (fun ls hl => ?_)
  refine lv_aload_n X.1 X.2.1 dX7_takeNumber_2 rfl (lv_at hl 1 rfl) ?_
  refine r_ei I (r_runV X I pk_X7_peek (c7_peek l G _ _) lm_X7_25 (by decide) (cl_7 rfl) rfl rfl rfl hl.1 rfl (Nat.le_of_ble_eq_true rfl) dX7_takeNumber_3 ⟨Nat.le_of_ble_eq_true rfl, Nat.le_of_ble_eq_true rfl⟩ ⟨Nat.le_refl 0, Nat.le_refl 0⟩) (fun H locs I => ?_)
  refine r_ei I (r_runN X I pk_X11_isDigit (c11_isDigit l G _ _ _) (by decide +kernel) rfl hl.1 rfl (Nat.le_of_ble_eq_true rfl) dX7_takeNumber_6 ⟨Nat.le_of_ble_eq_true rfl, Nat.le_of_ble_eq_true rfl⟩ ⟨Nat.le_refl 0, Nat.le_refl 0⟩) (fun H locs I => ?_)
  refine lv_if_ne (tgt := 19) X.1 X.2.1 dX7_takeNumber_9 (by decide) (fun c_1 => ?_) (fun c_1 => ?_)
  · skip
    have hE := ite_t hE (b2i_y c_1)
    refine lv_iconst (v := 0) X.1 X.2.1 dX7_takeNumber_19 (by decide) ?_
    refine lv_istore_n (lv' := [(3, .int _), (2, .int _), (0, .ref _), (1, .int _)]) X.1 X.2.1 dX7_takeNumber_20 rfl hl (by decide) rfl (fun ls hl => ?_)
    exact c7_takeNumber_c21 X _ _ hB _ _ _ _ _ _ _ I (lv_sub hl [2, 3, 1, 0] rfl) (fu1_lt _) (hE.trans (rfl))
  · skip
    have hE := ite_f hE (b2i_n c_1)
    refine lv_aload_n X.1 X.2.1 dX7_takeNumber_12 rfl (lv_at hl 1 rfl) ?_
    refine r_ei I (r_runV X I pk_X7_fails (c7_fails l G _ _) lm_X7_29 (by decide) (cl_7 rfl) rfl rfl rfl hl.1 rfl (Nat.le_of_ble_eq_true rfl) dX7_takeNumber_13 ⟨Nat.le_of_ble_eq_true rfl, Nat.le_of_ble_eq_true rfl⟩ ⟨Nat.le_refl 0, Nat.le_refl 0⟩) (fun H locs I => ?_)
    refine lv_pop X.1 X.2.1 dX7_takeNumber_16 rfl ?_
    refine lv_iconst (v := (-1)) X.1 X.2.1 dX7_takeNumber_17 (by decide) ?_
    have h9 := hE
    exact r_iret X I (e_i (pr_fst h9) (pr_snd h9) rfl) dX7_takeNumber_18
noncomputable def f7_takes (σ : SI) (x1 : Int32) : Bool × SI := let r0 := (f7_peek σ); if r0.1 = x1 then (let s1 := (f7_pass r0.2); (true, s1)) else (let r2 := (f7_fails r0.2); r2)
theorem w_f7_takes (σ : SI) (x1 : Int32) (a : Nat) (h0 : a ≠ 1) : (f7_takes σ x1).2 a = σ a := by
  refine fp_to2 ?_
  unfold f7_takes
  exact (fr_ite2 (fr_mk21 ((w_f7_pass _ a h0).trans (w_f7_peek _ a h0))) ((w_f7_fails _ a h0).trans (w_f7_peek _ a h0)))
set_option maxHeartbeats 4000000 in
set_option maxRecDepth 100000 in
theorem c7_takes (l : Launch) (G : GT) (σ : SI) (τ : SL) (x1 : Int32) : Mc l yX7_takes cX7_takes 2 (some .boolean) 1 G [.ref (G.2.1 1), .int x1] σ τ (Qi G (Ei (b2i (f7_takes σ x1).1) (f7_takes σ x1).2 τ)) := by
  refine m_start (by decide +kernel) (Nat.le_of_ble_eq_true rfl) rfl (fun p e s m args below meth c ls X I hl => ?_)
  have hl : lv_has ls 2 [(0, .ref (G.2.1 1)), (1, .int x1)] := hl
  obtain ⟨E, hE⟩ : ∃ E, E = (f7_takes σ x1) := ⟨_, rfl⟩
  rw [← hE]
  refine lv_aload_n X.1 X.2.1 dX7_takes_0 rfl (lv_at hl 0 rfl) ?_
  refine r_ei I (r_runV X I pk_X7_peek (c7_peek l G _ _) lm_X7_25 (by decide) (cl_7 rfl) rfl rfl rfl hl.1 rfl (Nat.le_of_ble_eq_true rfl) dX7_takes_1 ⟨Nat.le_of_ble_eq_true rfl, Nat.le_of_ble_eq_true rfl⟩ ⟨Nat.le_refl 0, Nat.le_refl 0⟩) (fun H locs I => ?_)
  refine lv_iload_n X.1 X.2.1 dX7_takes_4 rfl (lv_at hl 1 rfl) ?_
  refine lv_icmp_eq (tgt := 13) X.1 X.2.1 dX7_takes_5 (by decide) (fun c_1 => ?_) (fun c_1 => ?_)
  · skip
    have hE := ite_t hE c_1
    refine lv_aload_n X.1 X.2.1 dX7_takes_13 rfl (lv_at hl 0 rfl) ?_
    refine r_ev I (r_runV X I pk_X7_pass (c7_pass l G _ _) lm_X7_33 (by decide) (cl_7 rfl) rfl rfl rfl hl.1 rfl (Nat.le_of_ble_eq_true rfl) dX7_takes_14 ⟨Nat.le_of_ble_eq_true rfl, Nat.le_of_ble_eq_true rfl⟩ ⟨Nat.le_refl 0, Nat.le_refl 0⟩) (fun H locs I => ?_)
    refine lv_iconst (v := 1) X.1 X.2.1 dX7_takes_17 (by decide) ?_
    have h9 := hE
    exact r_zret X I rfl (e_i (congrArg b2i (pr_fst (a := true) h9)) (pr_snd h9) rfl) dX7_takes_18
  · skip
    have hE := ite_f hE c_1
    refine lv_aload_n X.1 X.2.1 dX7_takes_8 rfl (lv_at hl 0 rfl) ?_
    refine r_ei I (r_runV X I pk_X7_fails (c7_fails l G _ _) lm_X7_29 (by decide) (cl_7 rfl) rfl rfl rfl hl.1 rfl (Nat.le_of_ble_eq_true rfl) dX7_takes_9 ⟨Nat.le_of_ble_eq_true rfl, Nat.le_of_ble_eq_true rfl⟩ ⟨Nat.le_refl 0, Nat.le_refl 0⟩) (fun H locs I => ?_)
    have h9 := hE
    exact r_zret X I (b2i_nar _) (e_i (congrArg b2i (congrArg Prod.fst h9)).symm (congrArg Prod.snd h9).symm rfl) dX7_takes_12
noncomputable def f3_readsAtom (S : SI → Int32 → Bool × SI) (σ : SI) (x1 : Int32) : Bool × SI := let r0 := (f7_peek σ); if (f11_isDigit r0.1) = true then (let r8 := (f7_takeNumber r0.2 (4 : Int32)); let s9 := (f1_add 8 r8.2 r8.1); if r8.1 = (-1 : Int32) then (false, s9) else (true, s9)) else (if (f3_isLetter r0.1) = true then (let s6 := (f7_pass r0.2); let s7 := (f1_add 8 s6 (-r0.1)); (true, s7)) else (if r0.1 = (91 : Int32) then (if x1 < (6 : Int32) then (let s2 := (f7_pass r0.2); let r3 := (S s2 (x1 + (1 : Int32))); if r3.1 = true then (let r4 := (f7_takes r3.2 (93 : Int32)); if r4.1 = true then (true, r4.2) else (false, r4.2)) else (false, r3.2)) else (let r5 := (f7_fails r0.2); r5)) else (let r1 := (f7_fails r0.2); r1)))
theorem w_f3_readsAtom {S : SI → Int32 → Bool × SI} (hS : ∀ (σ : SI) (x1 : Int32) (b : Nat), b ≠ 1 → b ≠ 8 → b ≠ 9 → (S σ x1).2 b = σ b) (σ : SI) (x1 : Int32) (a : Nat) (h0 : a ≠ 1) (h1 : a ≠ 8) (h2 : a ≠ 9) : (f3_readsAtom S σ x1).2 a = σ a := by
  refine fp_to2 ?_
  unfold f3_readsAtom
  exact (fr_ite2 (fr_ite2 (fr_mk21 ((w_f1_add _ _ a h2 h1).trans ((w_f7_takeNumber _ _ a h0).trans (w_f7_peek _ a h0)))) (fr_mk21 ((w_f1_add _ _ a h2 h1).trans ((w_f7_takeNumber _ _ a h0).trans (w_f7_peek _ a h0))))) (fr_ite2 (fr_mk21 ((w_f1_add _ _ a h2 h1).trans ((w_f7_pass _ a h0).trans (w_f7_peek _ a h0)))) (fr_ite2 (fr_ite2 (fr_ite2 (fr_ite2 (fr_mk21 ((w_f7_takes _ _ a h0).trans ((hS _ _ a h0 h1 h2).trans ((w_f7_pass _ a h0).trans (w_f7_peek _ a h0))))) (fr_mk21 ((w_f7_takes _ _ a h0).trans ((hS _ _ a h0 h1 h2).trans ((w_f7_pass _ a h0).trans (w_f7_peek _ a h0)))))) (fr_mk21 ((hS _ _ a h0 h1 h2).trans ((w_f7_pass _ a h0).trans (w_f7_peek _ a h0))))) ((w_f7_fails _ a h0).trans (w_f7_peek _ a h0))) ((w_f7_fails _ a h0).trans (w_f7_peek _ a h0)))))
set_option maxHeartbeats 4000000 in
set_option maxRecDepth 100000 in
theorem c3_readsAtom (l : Launch) (G : GT) {S : SI → Int32 → Bool × SI} {D : Nat} (hS : ∀ (σ : SI) (τ : SL) (x1 : Int32), (Int32.toInt 6 - Int32.toInt x1).toNat < D → Mc l yX3_readsSum cX3_readsSum 4 (some .boolean) (10 + 3 * D) G [.ref (G.2.1 7), .int x1] σ τ (Qi G (Ei (b2i (S σ x1).1) (S σ x1).2 τ))) (σ : SI) (τ : SL) (x1 : Int32) (hx : (Int32.toInt 6 - Int32.toInt x1).toNat < D + 1) : Mc l yX3_readsAtom cX3_readsAtom 4 (some .boolean) (10 + 3 * D + 1) G [.ref (G.2.1 7), .int x1] σ τ (Qi G (Ei (b2i (f3_readsAtom S σ x1).1) (f3_readsAtom S σ x1).2 τ)) := by
  refine m_start (by decide +kernel) (Nat.le_of_ble_eq_true rfl) rfl (fun p e s m args below meth c ls X I hl => ?_)
  have hl : lv_has ls 4 [(0, .ref (G.2.1 7)), (1, .int x1)] := hl
  obtain ⟨E, hE⟩ : ∃ E, E = (f3_readsAtom S σ x1) := ⟨_, rfl⟩
  rw [← hE]
  refine lv_aload_n X.1 X.2.1 dX3_readsAtom_0 rfl (lv_at hl 0 rfl) ?_
  refine g3_0 X I (k := 7) (by decide) rfl lf_X3_9 dX3_readsAtom_1 ?_
  refine r_ei I (r_runV X I pk_X7_peek (c7_peek l G _ _) lm_X3_38 (by decide) (cl_7 rfl) rfl rfl rfl hl.1 rfl (Nat.le_of_ble_eq_true rfl) dX3_readsAtom_4 (hr_le (by omega) (by decide)) ⟨Nat.le_refl 0, Nat.le_refl 0⟩) (fun H locs I => ?_)
  refine lv_istore_n (lv' := [(2, .int _), (0, .ref _), (1, .int _)]) X.1 X.2.1 dX3_readsAtom_7 rfl hl (by decide) rfl (fun ls hl => ?_)
  refine lv_iload_n X.1 X.2.1 dX3_readsAtom_8 rfl (lv_at hl 0 rfl) ?_
  refine r_ei I (r_runN X I pk_X11_isDigit (c11_isDigit l G _ _ _) (by decide +kernel) rfl hl.1 rfl (Nat.le_of_ble_eq_true rfl) dX3_readsAtom_9 (hr_le (by omega) (by decide)) ⟨Nat.le_refl 0, Nat.le_refl 0⟩) (fun H locs I => ?_)
  refine lv_if_eq (tgt := 43) X.1 X.2.1 dX3_readsAtom_12 (by decide) (fun c_1 => ?_) (fun c_1 => ?_)
  · skip
    have hE := ite_f hE (b2i_n c_1)
    refine lv_iload_n X.1 X.2.1 dX3_readsAtom_43 rfl (lv_at hl 0 rfl) ?_
    refine r_ei I (r_runS X I pk_X3_isLetter (c3_isLetter l G _ _ _) lm_X3_87 rfl hl.1 rfl (Nat.le_of_ble_eq_true rfl) dX3_readsAtom_44 (hr_le (by omega) (by decide)) ⟨Nat.le_refl 0, Nat.le_refl 0⟩) (fun H locs I => ?_)
    refine lv_if_eq (tgt := 68) X.1 X.2.1 dX3_readsAtom_47 (by decide) (fun c_2 => ?_) (fun c_2 => ?_)
    · skip
      have hE := ite_f hE (b2i_n c_2)
      refine lv_iload_n X.1 X.2.1 dX3_readsAtom_68 rfl (lv_at hl 0 rfl) ?_
      refine lv_bipush (v := 91) X.1 X.2.1 dX3_readsAtom_69 (by decide) ?_
      refine lv_icmp_ne (tgt := 80) X.1 X.2.1 dX3_readsAtom_71 (by decide) (fun c_3 => ?_) (fun c_3 => ?_)
      · skip
        have hE := ite_f hE c_3
        refine lv_aload_n X.1 X.2.1 dX3_readsAtom_80 rfl (lv_at hl 1 rfl) ?_
        refine g3_0 X I (k := 7) (by decide) rfl lf_X3_9 dX3_readsAtom_81 ?_
        refine r_ei I (r_runV X I pk_X7_fails (c7_fails l G _ _) lm_X3_46 (by decide) (cl_7 rfl) rfl rfl rfl hl.1 rfl (Nat.le_of_ble_eq_true rfl) dX3_readsAtom_84 (hr_le (by omega) (by decide)) ⟨Nat.le_refl 0, Nat.le_refl 0⟩) (fun H locs I => ?_)
        have h9 := hE
        exact r_zret X I (b2i_nar _) (e_i (congrArg b2i (congrArg Prod.fst h9)).symm (congrArg Prod.snd h9).symm rfl) dX3_readsAtom_87
      · skip
        have hE := ite_t hE c_3
        refine lv_iload_n X.1 X.2.1 dX3_readsAtom_74 rfl (lv_at hl 2 rfl) ?_
        refine lv_bipush (v := 6) X.1 X.2.1 dX3_readsAtom_75 (by decide) ?_
        refine lv_icmp_lt (tgt := 88) X.1 X.2.1 dX3_readsAtom_77 (by decide) (fun c_4 => ?_) (fun c_4 => ?_)
        · skip
          have hE := ite_t hE c_4
          refine lv_aload_n X.1 X.2.1 dX3_readsAtom_88 rfl (lv_at hl 1 rfl) ?_
          refine g3_0 X I (k := 7) (by decide) rfl lf_X3_9 dX3_readsAtom_89 ?_
          refine r_ev I (r_runV X I pk_X7_pass (c7_pass l G _ _) lm_X3_68 (by decide) (cl_7 rfl) rfl rfl rfl hl.1 rfl (Nat.le_of_ble_eq_true rfl) dX3_readsAtom_92 (hr_le (by omega) (by decide)) ⟨Nat.le_refl 0, Nat.le_refl 0⟩) (fun H locs I => ?_)
          refine lv_aload_n X.1 X.2.1 dX3_readsAtom_95 rfl (lv_at hl 1 rfl) ?_
          refine lv_iload_n X.1 X.2.1 dX3_readsAtom_96 rfl (lv_at hl 2 rfl) ?_
          refine lv_iconst (v := 1) X.1 X.2.1 dX3_readsAtom_97 (by decide) ?_
          refine lv_iadd X.1 X.2.1 dX3_readsAtom_98 ?_
          refine r_ei I (r_runV X I pk_X3_readsSum (hS _ _ _ (Nat.lt_of_lt_of_le (up_dec (vp_lt c_4)) (Nat.le_of_lt_succ hx))) lm_X3_56 (by decide) (cl_3 rfl) rfl rfl rfl hl.1 rfl (Nat.le_of_ble_eq_true rfl) dX3_readsAtom_99 (hr_le (by omega) (by decide)) ⟨Nat.le_refl 0, Nat.le_refl 0⟩) (fun H locs I => ?_)
          refine lv_if_eq (tgt := 121) X.1 X.2.1 dX3_readsAtom_102 (by decide) (fun c_5 => ?_) (fun c_5 => ?_)
          · skip
            have hE := ite_f hE (b2i_n c_5)
            refine lv_iconst (v := 0) X.1 X.2.1 dX3_readsAtom_121 (by decide) ?_
            have h9 := hE
            exact r_zret X I rfl (e_i (congrArg b2i (pr_fst (a := false) h9)) (pr_snd h9) rfl) dX3_readsAtom_122
          · skip
            have hE := ite_t hE (b2i_y c_5)
            refine lv_aload_n X.1 X.2.1 dX3_readsAtom_105 rfl (lv_at hl 1 rfl) ?_
            refine g3_0 X I (k := 7) (by decide) rfl lf_X3_9 dX3_readsAtom_106 ?_
            refine lv_bipush (v := 93) X.1 X.2.1 dX3_readsAtom_109 (by decide) ?_
            refine r_ei I (r_runV X I pk_X7_takes (c7_takes l G _ _ _) lm_X3_42 (by decide) (cl_7 rfl) rfl rfl rfl hl.1 rfl (Nat.le_of_ble_eq_true rfl) dX3_readsAtom_111 (hr_le (by omega) (by decide)) ⟨Nat.le_refl 0, Nat.le_refl 0⟩) (fun H locs I => ?_)
            refine lv_if_eq (tgt := 121) X.1 X.2.1 dX3_readsAtom_114 (by decide) (fun c_6 => ?_) (fun c_6 => ?_)
            · skip
              have hE := ite_f hE (b2i_n c_6)
              refine lv_iconst (v := 0) X.1 X.2.1 dX3_readsAtom_121 (by decide) ?_
              have h9 := hE
              exact r_zret X I rfl (e_i (congrArg b2i (pr_fst (a := false) h9)) (pr_snd h9) rfl) dX3_readsAtom_122
            · skip
              have hE := ite_t hE (b2i_y c_6)
              refine lv_iconst (v := 1) X.1 X.2.1 dX3_readsAtom_117 (by decide) ?_
              refine lv_goto (tgt := 122) X.1 X.2.1 dX3_readsAtom_118 (by decide) ?_
              have h9 := hE
              exact r_zret X I rfl (e_i (congrArg b2i (pr_fst (a := true) h9)) (pr_snd h9) rfl) dX3_readsAtom_122
        · skip
          have hE := ite_f hE c_4
          refine lv_aload_n X.1 X.2.1 dX3_readsAtom_80 rfl (lv_at hl 1 rfl) ?_
          refine g3_0 X I (k := 7) (by decide) rfl lf_X3_9 dX3_readsAtom_81 ?_
          refine r_ei I (r_runV X I pk_X7_fails (c7_fails l G _ _) lm_X3_46 (by decide) (cl_7 rfl) rfl rfl rfl hl.1 rfl (Nat.le_of_ble_eq_true rfl) dX3_readsAtom_84 (hr_le (by omega) (by decide)) ⟨Nat.le_refl 0, Nat.le_refl 0⟩) (fun H locs I => ?_)
          have h9 := hE
          exact r_zret X I (b2i_nar _) (e_i (congrArg b2i (congrArg Prod.fst h9)).symm (congrArg Prod.snd h9).symm rfl) dX3_readsAtom_87
    · skip
      have hE := ite_t hE (b2i_y c_2)
      refine lv_aload_n X.1 X.2.1 dX3_readsAtom_50 rfl (lv_at hl 1 rfl) ?_
      refine g3_0 X I (k := 7) (by decide) rfl lf_X3_9 dX3_readsAtom_51 ?_
      refine r_ev I (r_runV X I pk_X7_pass (c7_pass l G _ _) lm_X3_68 (by decide) (cl_7 rfl) rfl rfl rfl hl.1 rfl (Nat.le_of_ble_eq_true rfl) dX3_readsAtom_54 (hr_le (by omega) (by decide)) ⟨Nat.le_refl 0, Nat.le_refl 0⟩) (fun H locs I => ?_)
      refine lv_aload_n X.1 X.2.1 dX3_readsAtom_57 rfl (lv_at hl 1 rfl) ?_
      refine g3_1 X I (k := 7) (by decide) rfl lf_X3_18 dX3_readsAtom_58 ?_
      refine lv_iload_n X.1 X.2.1 dX3_readsAtom_61 rfl (lv_at hl 0 rfl) ?_
      refine lv_ineg X.1 X.2.1 dX3_readsAtom_62 ?_
      refine r_ev I (r_runV X I pk_X1_add (c1_add l G (k := 8) ⟨by decide, rfl, rfl⟩ _ _ _) lm_X3_34 (by decide) (cl_1 rfl) rfl rfl rfl hl.1 rfl (Nat.le_of_ble_eq_true rfl) dX3_readsAtom_63 (hr_le (by omega) (by decide)) ⟨Nat.le_refl 0, Nat.le_refl 0⟩) (fun H locs I => ?_)
      refine lv_iconst (v := 1) X.1 X.2.1 dX3_readsAtom_66 (by decide) ?_
      have h9 := hE
      exact r_zret X I rfl (e_i (congrArg b2i (pr_fst (a := true) h9)) (pr_snd h9) rfl) dX3_readsAtom_67
  · skip
    have hE := ite_t hE (b2i_y c_1)
    refine lv_aload_n X.1 X.2.1 dX3_readsAtom_15 rfl (lv_at hl 1 rfl) ?_
    refine g3_0 X I (k := 7) (by decide) rfl lf_X3_9 dX3_readsAtom_16 ?_
    refine lv_iconst (v := 4) X.1 X.2.1 dX3_readsAtom_19 (by decide) ?_
    refine r_ei I (r_runV X I pk_X7_takeNumber (c7_takeNumber l G _ _ _ (by decide)) lm_X3_83 (by decide) (cl_7 rfl) rfl rfl rfl hl.1 rfl (Nat.le_of_ble_eq_true rfl) dX3_readsAtom_20 (hr_le (by omega) (by decide)) ⟨Nat.le_refl 0, Nat.le_refl 0⟩) (fun H locs I => ?_)
    refine lv_istore_n (lv' := [(3, .int _), (2, .int _), (0, .ref _), (1, .int _)]) X.1 X.2.1 dX3_readsAtom_23 rfl hl (by decide) rfl (fun ls hl => ?_)
    refine lv_aload_n X.1 X.2.1 dX3_readsAtom_24 rfl (lv_at hl 2 rfl) ?_
    refine g3_1 X I (k := 7) (by decide) rfl lf_X3_18 dX3_readsAtom_25 ?_
    refine lv_iload_n X.1 X.2.1 dX3_readsAtom_28 rfl (lv_at hl 0 rfl) ?_
    refine r_ev I (r_runV X I pk_X1_add (c1_add l G (k := 8) ⟨by decide, rfl, rfl⟩ _ _ _) lm_X3_34 (by decide) (cl_1 rfl) rfl rfl rfl hl.1 rfl (Nat.le_of_ble_eq_true rfl) dX3_readsAtom_29 (hr_le (by omega) (by decide)) ⟨Nat.le_refl 0, Nat.le_refl 0⟩) (fun H locs I => ?_)
    refine lv_iload_n X.1 X.2.1 dX3_readsAtom_32 rfl (lv_at hl 0 rfl) ?_
    refine lv_iconst (v := (-1)) X.1 X.2.1 dX3_readsAtom_33 (by decide) ?_
    refine lv_icmp_eq (tgt := 41) X.1 X.2.1 dX3_readsAtom_34 (by decide) (fun c_7 => ?_) (fun c_7 => ?_)
    · skip
      have hE := ite_t hE c_7
      refine lv_iconst (v := 0) X.1 X.2.1 dX3_readsAtom_41 (by decide) ?_
      have h9 := hE
      exact r_zret X I rfl (e_i (congrArg b2i (pr_fst (a := false) h9)) (pr_snd h9) rfl) dX3_readsAtom_42
    · skip
      have hE := ite_f hE c_7
      refine lv_iconst (v := 1) X.1 X.2.1 dX3_readsAtom_37 (by decide) ?_
      refine lv_goto (tgt := 42) X.1 X.2.1 dX3_readsAtom_38 (by decide) ?_
      have h9 := hE
      exact r_zret X I rfl (e_i (congrArg b2i (pr_fst (a := true) h9)) (pr_snd h9) rfl) dX3_readsAtom_42
