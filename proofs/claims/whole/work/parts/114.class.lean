noncomputable def f5_noted (k1 : Nat) (σ : SI) (x2 : Int32) (x3 : Int32) : Int32 := if x2 < (0 : Int32) then (-1 : Int32) else (if (f0_logLength k1 σ) ≤ x2 then (-1 : Int32) else (if x3 < (0 : Int32) then (-1 : Int32) else (if x3 < (4 : Int32) then (f11_cell 28 400 σ ((f5_rowStart (((σ k1 8) - (1 : Int32)) - x2)) + x3)) else (-1 : Int32))))
set_option maxHeartbeats 4000000 in
set_option maxRecDepth 100000 in
theorem c5_noted (l : Launch) (G : GT) {k1 : Nat} (hk1 : isDay k1) (σ : SI) (τ : SL) (x2 : Int32) (x3 : Int32) : Mc l yX5_noted cX5_noted 4 (some .int) 2 G [.ref (G.2.1 26), .ref (G.2.1 k1), .int x2, .int x3] σ τ (Qi G (Ei (f5_noted k1 σ x2 x3) σ τ)) := by
  refine m_start (by decide +kernel) (Nat.le_of_ble_eq_true rfl) rfl (fun p e s m args below meth c ls X I hl => ?_)
  have hl : lv_has ls 4 [(0, .ref (G.2.1 26)), (1, .ref (G.2.1 k1)), (2, .int x2), (3, .int x3)] := hl
  obtain ⟨E, hE⟩ : ∃ E, E = (f5_noted k1 σ x2 x3) := ⟨_, rfl⟩
  rw [← hE]
  refine lv_iload_n X.1 X.2.1 dX5_noted_0 rfl (lv_at hl 2 rfl) ?_
  refine lv_if_lt (tgt := 21) X.1 X.2.1 dX5_noted_1 (by decide) (fun c_1 => ?_) (fun c_1 => ?_)
  · skip
    have hE := ite_t hE c_1
    refine lv_iconst (v := (-1)) X.1 X.2.1 dX5_noted_21 (by decide) ?_
    have h9 := hE
    exact r_iret X I (e_i h9.symm rfl rfl) dX5_noted_22
  · skip
    have hE := ite_f hE c_1
    refine lv_iload_n X.1 X.2.1 dX5_noted_4 rfl (lv_at hl 2 rfl) ?_
    refine lv_aload_n X.1 X.2.1 dX5_noted_5 rfl (lv_at hl 1 rfl) ?_
    refine r_ei I (r_runV X I pk_X0_logLength (c0_logLength l G (k := k1) hk1 _ _) lm_X5_68 (Nat.lt_of_le_of_lt (Nat.add_le_add_left (show 0 ≤ 1 by decide) k1) hk1.1) (cl_0 hk1.2.1) rfl rfl rfl hl.1 rfl (Nat.le_of_ble_eq_true rfl) dX5_noted_6 ⟨Nat.le_of_ble_eq_true rfl, Nat.le_of_ble_eq_true rfl⟩ ⟨Nat.le_refl 0, Nat.le_refl 0⟩) (fun H locs I => ?_)
    refine lv_icmp_ge (tgt := 21) X.1 X.2.1 dX5_noted_9 (by decide) (fun c_2 => ?_) (fun c_2 => ?_)
    · skip
      have hE := ite_t hE c_2
      refine lv_iconst (v := (-1)) X.1 X.2.1 dX5_noted_21 (by decide) ?_
      have h9 := hE
      exact r_iret X I (e_i h9.symm rfl rfl) dX5_noted_22
    · skip
      have hE := ite_f hE c_2
      refine lv_iload_n X.1 X.2.1 dX5_noted_12 rfl (lv_at hl 3 rfl) ?_
      refine lv_if_lt (tgt := 21) X.1 X.2.1 dX5_noted_13 (by decide) (fun c_3 => ?_) (fun c_3 => ?_)
      · skip
        have hE := ite_t hE c_3
        refine lv_iconst (v := (-1)) X.1 X.2.1 dX5_noted_21 (by decide) ?_
        have h9 := hE
        exact r_iret X I (e_i h9.symm rfl rfl) dX5_noted_22
      · skip
        have hE := ite_f hE c_3
        refine lv_iload_n X.1 X.2.1 dX5_noted_16 rfl (lv_at hl 3 rfl) ?_
        refine lv_iconst (v := 4) X.1 X.2.1 dX5_noted_17 (by decide) ?_
        refine lv_icmp_lt (tgt := 23) X.1 X.2.1 dX5_noted_18 (by decide) (fun c_4 => ?_) (fun c_4 => ?_)
        · skip
          have hE := ite_t hE c_4
          refine lv_aload_n X.1 X.2.1 dX5_noted_23 rfl (lv_at hl 0 rfl) ?_
          refine g5_1 X I (k := 26) (by decide) rfl lf_X5_18 dX5_noted_24 ?_
          refine lv_aload_n X.1 X.2.1 dX5_noted_27 rfl (lv_at hl 1 rfl) ?_
          refine g0_8 X I (k := k1) (Nat.lt_of_le_of_lt (Nat.add_le_add_left (show 0 ≤ 1 by decide) k1) hk1.1) hk1.2.1 lf_X5_54 dX5_noted_28 ?_
          refine lv_iconst (v := 1) X.1 X.2.1 dX5_noted_31 (by decide) ?_
          refine lv_isub X.1 X.2.1 dX5_noted_32 ?_
          refine lv_iload_n X.1 X.2.1 dX5_noted_33 rfl (lv_at hl 2 rfl) ?_
          refine lv_isub X.1 X.2.1 dX5_noted_34 ?_
          refine r_ei I (r_runS X I pk_X5_rowStart (c5_rowStart l G _ _ _) lm_X5_57 rfl hl.1 rfl (Nat.le_of_ble_eq_true rfl) dX5_noted_35 ⟨Nat.le_of_ble_eq_true rfl, Nat.le_of_ble_eq_true rfl⟩ ⟨Nat.le_refl 0, Nat.le_refl 0⟩) (fun H locs I => ?_)
          refine lv_iload_n X.1 X.2.1 dX5_noted_38 rfl (lv_at hl 3 rfl) ?_
          refine lv_iadd X.1 X.2.1 dX5_noted_39 ?_
          refine r_ei I (r_runN X I pk_X11_cell (c11_cell l G (k := 28) (n := 400) (by decide) rfl (by decide) _ _ _) (by decide +kernel) rfl hl.1 rfl (Nat.le_of_ble_eq_true rfl) dX5_noted_40 ⟨Nat.le_of_ble_eq_true rfl, Nat.le_of_ble_eq_true rfl⟩ ⟨Nat.le_refl 0, Nat.le_refl 0⟩) (fun H locs I => ?_)
          have h9 := hE
          exact r_iret X I (e_i h9.symm rfl rfl) dX5_noted_43
        · skip
          have hE := ite_f hE c_4
          refine lv_iconst (v := (-1)) X.1 X.2.1 dX5_noted_21 (by decide) ?_
          have h9 := hE
          exact r_iret X I (e_i h9.symm rfl rfl) dX5_noted_22
noncomputable def f5_draw (k1 : Nat) (σ : SI) : SI := let s0 := (f0_copy 29 k1 σ); let s1 := su s0 31 (va_cpy (s0 28) (s0 31) 0 0 400); let s2 := sp s1 26 6 (1 : Int32); s2
theorem w_f5_draw {k1 : Nat} (σ : SI) (a : Nat) (h0 : a ≠ 26) (h1 : a ≠ 29) (h2 : a ≠ 30) (h3 : a ≠ 31) : (f5_draw k1 σ) a = σ a := by
  unfold f5_draw
  exact ((sp_n h0).trans ((su_n _ _ h3).trans (w_f0_copy _ a h2 h1)))
set_option maxHeartbeats 4000000 in
set_option maxRecDepth 100000 in
theorem c5_draw (l : Launch) (G : GT) {k1 : Nat} (hk1 : isDay k1) (σ : SI) (τ : SL) : Mc l yX5_draw cX5_draw 2 none 3 G [.ref (G.2.1 26), .ref (G.2.1 k1)] σ τ (Qv G (Ev (f5_draw k1 σ) τ)) := by
  refine m_start (by decide +kernel) (Nat.le_of_ble_eq_true rfl) rfl (fun p e s m args below meth c ls X I hl => ?_)
  have hl : lv_has ls 2 [(0, .ref (G.2.1 26)), (1, .ref (G.2.1 k1))] := hl
  obtain ⟨E, hE⟩ : ∃ E, E = (f5_draw k1 σ) := ⟨_, rfl⟩
  rw [← hE]
  refine lv_aload_n X.1 X.2.1 dX5_draw_0 rfl (lv_at hl 0 rfl) ?_
  refine g5_2 X I (k := 26) (by decide) rfl lf_X5_22 dX5_draw_1 ?_
  refine lv_aload_n X.1 X.2.1 dX5_draw_4 rfl (lv_at hl 1 rfl) ?_
  refine r_ev I (r_runV X I pk_X0_copy (c0_copy l G (k := 29) ⟨by decide, rfl, rfl⟩ (k1 := k1) hk1 _ _) lm_X5_44 (by decide) (cl_0 rfl) rfl rfl rfl hl.1 rfl (Nat.le_of_ble_eq_true rfl) dX5_draw_5 ⟨Nat.le_of_ble_eq_true rfl, Nat.le_of_ble_eq_true rfl⟩ ⟨Nat.le_refl 0, Nat.le_refl 0⟩) (fun H locs I => ?_)
  refine lv_aload_n X.1 X.2.1 dX5_draw_8 rfl (lv_at hl 0 rfl) ?_
  refine g5_1 X I (k := 26) (by decide) rfl lf_X5_18 dX5_draw_9 ?_
  refine lv_iconst (v := 0) X.1 X.2.1 dX5_draw_12 (by decide) ?_
  refine lv_aload_n X.1 X.2.1 dX5_draw_13 rfl (lv_at hl 0 rfl) ?_
  refine g5_3 X I (k := 26) (by decide) rfl lf_X5_26 dX5_draw_14 ?_
  refine lv_iconst (v := 0) X.1 X.2.1 dX5_draw_17 (by decide) ?_
  refine lv_sipush (v := 400) X.1 X.2.1 dX5_draw_18 (by decide) ?_
  refine r_copy X I hl.1 (k0 := 28) (n0 := 400) (k1 := 31) (n1 := 400) (by decide) rfl (by decide) rfl (N := 400) (n := 400) (by decide) (by decide) (by decide) rfl (Nat.le_of_ble_eq_true rfl) (Nat.le_of_ble_eq_true rfl) lm_X5_79 dX5_draw_21 (Nat.le_of_ble_eq_true rfl) (Nat.le_of_ble_eq_true rfl) (fun H locs I => ?_)
  refine lv_aload_n X.1 X.2.1 dX5_draw_24 rfl (lv_at hl 0 rfl) ?_
  refine lv_iconst (v := 1) X.1 X.2.1 dX5_draw_25 (by decide) ?_
  refine p5_6 X I (k := 26) (by decide) rfl lf_X5_36 rfl rfl dX5_draw_26 (fun H locs I => ?_)
  have h9 := hE
  exact r_vret X I (e_v h9.symm rfl) dX5_draw_29
noncomputable def f5_bringBack (k1 : Nat) (σ : SI) : Bool × SI := if (σ 26 6) = (0 : Int32) then (false, σ) else (let s0 := (f0_copy k1 29 σ); let s1 := su s0 28 (va_cpy (s0 31) (s0 28) 0 0 400); let s2 := sp s1 26 4 (0 : Int32); (true, s2))
theorem w_f5_bringBack {k1 : Nat} (σ : SI) (a : Nat) (h0 : a ≠ 26) (h1 : a ≠ 28) (h2 : a ≠ (k1 + 1)) (h3 : a ≠ k1) : (f5_bringBack k1 σ).2 a = σ a := by
  refine fp_to2 ?_
  unfold f5_bringBack
  exact (fr_ite2 (fr_mk21 rfl) (fr_mk21 ((sp_n h0).trans ((su_n _ _ h1).trans (w_f0_copy _ a h2 h3)))))
set_option maxHeartbeats 4000000 in
set_option maxRecDepth 100000 in
theorem c5_bringBack (l : Launch) (G : GT) {k1 : Nat} (hk1 : isDay k1) (σ : SI) (τ : SL) : Mc l yX5_bringBack cX5_bringBack 2 (some .boolean) 3 G [.ref (G.2.1 26), .ref (G.2.1 k1)] σ τ (Qi G (Ei (b2i (f5_bringBack k1 σ).1) (f5_bringBack k1 σ).2 τ)) := by
  refine m_start (by decide +kernel) (Nat.le_of_ble_eq_true rfl) rfl (fun p e s m args below meth c ls X I hl => ?_)
  have hl : lv_has ls 2 [(0, .ref (G.2.1 26)), (1, .ref (G.2.1 k1))] := hl
  obtain ⟨E, hE⟩ : ∃ E, E = (f5_bringBack k1 σ) := ⟨_, rfl⟩
  rw [← hE]
  refine lv_aload_n X.1 X.2.1 dX5_bringBack_0 rfl (lv_at hl 0 rfl) ?_
  refine g5_6 X I (k := 26) (by decide) rfl lf_X5_36 dX5_bringBack_1 ?_
  refine lv_if_ne (tgt := 9) X.1 X.2.1 dX5_bringBack_4 (by decide) (fun c_1 => ?_) (fun c_1 => ?_)
  · skip
    have hE := ite_f hE c_1
    refine lv_aload_n X.1 X.2.1 dX5_bringBack_9 rfl (lv_at hl 1 rfl) ?_
    refine lv_aload_n X.1 X.2.1 dX5_bringBack_10 rfl (lv_at hl 0 rfl) ?_
    refine g5_2 X I (k := 26) (by decide) rfl lf_X5_22 dX5_bringBack_11 ?_
    refine r_ev I (r_runV X I pk_X0_copy (c0_copy l G (k := k1) hk1 (k1 := 29) ⟨by decide, rfl, rfl⟩ _ _) lm_X5_44 (Nat.lt_of_le_of_lt (Nat.add_le_add_left (show 0 ≤ 1 by decide) k1) hk1.1) (cl_0 hk1.2.1) rfl rfl rfl hl.1 rfl (Nat.le_of_ble_eq_true rfl) dX5_bringBack_14 ⟨Nat.le_of_ble_eq_true rfl, Nat.le_of_ble_eq_true rfl⟩ ⟨Nat.le_refl 0, Nat.le_refl 0⟩) (fun H locs I => ?_)
    refine lv_aload_n X.1 X.2.1 dX5_bringBack_17 rfl (lv_at hl 0 rfl) ?_
    refine g5_3 X I (k := 26) (by decide) rfl lf_X5_26 dX5_bringBack_18 ?_
    refine lv_iconst (v := 0) X.1 X.2.1 dX5_bringBack_21 (by decide) ?_
    refine lv_aload_n X.1 X.2.1 dX5_bringBack_22 rfl (lv_at hl 0 rfl) ?_
    refine g5_1 X I (k := 26) (by decide) rfl lf_X5_18 dX5_bringBack_23 ?_
    refine lv_iconst (v := 0) X.1 X.2.1 dX5_bringBack_26 (by decide) ?_
    refine lv_sipush (v := 400) X.1 X.2.1 dX5_bringBack_27 (by decide) ?_
    refine r_copy X I hl.1 (k0 := 31) (n0 := 400) (k1 := 28) (n1 := 400) (by decide) rfl (by decide) rfl (N := 400) (n := 400) (by decide) (by decide) (by decide) rfl (Nat.le_of_ble_eq_true rfl) (Nat.le_of_ble_eq_true rfl) lm_X5_79 dX5_bringBack_30 (Nat.le_of_ble_eq_true rfl) (Nat.le_of_ble_eq_true rfl) (fun H locs I => ?_)
    refine lv_aload_n X.1 X.2.1 dX5_bringBack_33 rfl (lv_at hl 0 rfl) ?_
    refine lv_iconst (v := 0) X.1 X.2.1 dX5_bringBack_34 (by decide) ?_
    refine p5_4 X I (k := 26) (by decide) rfl lf_X5_29 dX5_bringBack_35 (fun H locs I => ?_)
    refine lv_iconst (v := 1) X.1 X.2.1 dX5_bringBack_38 (by decide) ?_
    have h9 := hE
    exact r_zret X I rfl (e_i (congrArg b2i (pr_fst (a := true) h9)) (pr_snd h9) rfl) dX5_bringBack_39
  · skip
    have hE := ite_t hE c_1
    refine lv_iconst (v := 0) X.1 X.2.1 dX5_bringBack_7 (by decide) ?_
    have h9 := hE
    exact r_zret X I rfl (e_i (congrArg b2i (pr_fst (a := false) h9)) (pr_snd h9) rfl) dX5_bringBack_8
noncomputable def f6_clear (σ : SI) : SI := let s0 := sp σ 36 2 (0 : Int32); s0
theorem w_f6_clear (σ : SI) (a : Nat) (h0 : a ≠ 36) : (f6_clear σ) a = σ a := by
  unfold f6_clear
  exact (sp_n h0)
set_option maxHeartbeats 4000000 in
set_option maxRecDepth 100000 in
theorem c6_clear (l : Launch) (G : GT) (σ : SI) (τ : SL) : Mc l yX6_clear cX6_clear 1 none 0 G [.ref (G.2.1 36)] σ τ (Qv G (Ev (f6_clear σ) τ)) := by
  refine m_start (by decide +kernel) (Nat.le_of_ble_eq_true rfl) rfl (fun p e s m args below meth c ls X I hl => ?_)
  have hl : lv_has ls 1 [(0, .ref (G.2.1 36))] := hl
  obtain ⟨E, hE⟩ : ∃ E, E = (f6_clear σ) := ⟨_, rfl⟩
  rw [← hE]
  refine lv_aload_n X.1 X.2.1 dX6_clear_0 rfl (lv_at hl 0 rfl) ?_
  refine lv_iconst (v := 0) X.1 X.2.1 dX6_clear_1 (by decide) ?_
  refine p6_2 X I (k := 36) (by decide) rfl lf_X6_18 dX6_clear_2 (fun H locs I => ?_)
  have h9 := hE
  exact r_vret X I (e_v h9.symm rfl) dX6_clear_5
noncomputable def f6_put_c19 (x1 : Int32) (x2 : Int32) : Nat → Int32 → SI → SI
  | 0, _, σ => σ
  | fu + 1, v3, σ => if v3 ≤ (0 : Int32) then (let s0 := (f11_setCell 37 7 σ v3 x1); let s1 := (f11_setCell 38 7 s0 v3 x2); let s2 := sp s1 36 2 ((s1 36 2) + (1 : Int32)); s2) else (if (f11_cell 38 7 σ (v3 - (1 : Int32))) ≤ x2 then (let s3 := (f11_setCell 37 7 σ v3 x1); let s4 := (f11_setCell 38 7 s3 v3 x2); let s5 := sp s4 36 2 ((s4 36 2) + (1 : Int32)); s5) else (let s6 := (f11_setCell 37 7 σ v3 (f11_cell 37 7 σ (v3 - (1 : Int32)))); let s7 := (f11_setCell 38 7 s6 v3 (f11_cell 38 7 s6 (v3 - (1 : Int32)))); (f6_put_c19 x1 x2 fu (v3 + (-1)) s7)))
noncomputable def f6_put (σ : SI) (x1 : Int32) (x2 : Int32) : SI := if x2 ≤ (0 : Int32) then σ else (if (σ 36 2) < (7 : Int32) then (f6_put_c19 x1 x2 (fu1 ((Int32.toInt (σ 36 2)).toNat)) (σ 36 2) σ) else σ)
theorem w_f6_put_c19 (x1 : Int32) (x2 : Int32) (a : Nat) (h0 : a ≠ 36) (h1 : a ≠ 37) (h2 : a ≠ 38) : ∀ (fu : Nat) (v3 : Int32) (σ : SI), (f6_put_c19 x1 x2 fu v3 σ) a = σ a := by
  intro fu
  induction fu with
  | zero => intro v3 σ; exact rfl
  | succ fu ih =>
    intro v3 σ
    unfold f6_put_c19
    exact (fr_ite ((sp_n h0).trans ((w_f11_setCell _ _ _ a h2).trans (w_f11_setCell _ _ _ a h1))) (fr_ite ((sp_n h0).trans ((w_f11_setCell _ _ _ a h2).trans (w_f11_setCell _ _ _ a h1))) ((ih _ _).trans ((w_f11_setCell _ _ _ a h2).trans (w_f11_setCell _ _ _ a h1)))))
theorem w_f6_put (σ : SI) (x1 : Int32) (x2 : Int32) (a : Nat) (h0 : a ≠ 36) (h1 : a ≠ 37) (h2 : a ≠ 38) : (f6_put σ x1 x2) a = σ a := by
  unfold f6_put
  exact (fr_ite rfl (fr_ite (w_f6_put_c19 _ _ a h0 h1 h2 _ _ _) rfl))
set_option maxHeartbeats 4000000 in
set_option maxRecDepth 100000 in
theorem c6_put_c19 {l : Launch} {p : Program} {e : Env} {s : State} {m : MethodId} {args : Array Value} {below : List Frame} {meth : Method} {c : Code} {G : GT} (X : CX p s m args meth c cX6_put RX6 4 none G) {E : SI} (τ : SL) (x1 : Int32) (x2 : Int32) : ∀ (fu : Nat) (v3 : Int32) (σ : SI) (H : Heap) (locs : List Loc) (ls : Array Slot), IX G s H locs σ τ → lv_has ls 4 [(0, .ref (G.2.1 36)), (1, .int x1), (2, .int x2), (3, .int v3)] → (Int32.toInt v3).toNat < fu → E = (f6_put_c19 x1 x2 fu v3 σ) → W p l e (rmN 1) s m args below meth c H locs 0 0 (MQ below ((Qv G (Ev E τ)) s.heap.size) args s 0 0 (AW G s.heap.size)) (F0 m 19 ls []) := by
  intro fu
  induction fu with
  | zero =>
    intro v3 σ H locs ls I hl  hm hE
    exact absurd hm (Nat.not_lt_zero _)
  | succ fu ih =>
    intro v3 σ H locs ls I hl  hm hE
    refine lv_iload_n X.1 X.2.1 dX6_put_19 rfl (lv_at hl 3 rfl) ?_
    refine lv_if_le (tgt := 79) X.1 X.2.1 dX6_put_20 (by decide) (fun c_3 => ?_) (fun c_3 => ?_)
    · skip
      have hE := ite_t hE c_3
      refine lv_aload_n X.1 X.2.1 dX6_put_79 rfl (lv_at hl 0 rfl) ?_
      refine g6_0 X I (k := 36) (by decide) rfl lf_X6_9 dX6_put_80 ?_
      refine lv_iload_n X.1 X.2.1 dX6_put_83 rfl (lv_at hl 3 rfl) ?_
      refine lv_iload_n X.1 X.2.1 dX6_put_84 rfl (lv_at hl 1 rfl) ?_
      refine r_ev I (r_runN X I pk_X11_setCell (c11_setCell l G (k := 37) (n := 7) (by decide) rfl (by decide) _ _ _ _) (by decide +kernel) rfl hl.1 rfl (Nat.le_of_ble_eq_true rfl) dX6_put_85 ⟨Nat.le_of_ble_eq_true rfl, Nat.le_of_ble_eq_true rfl⟩ ⟨Nat.le_refl 0, Nat.le_refl 0⟩) (fun H locs I => ?_)
      refine lv_aload_n X.1 X.2.1 dX6_put_88 rfl (lv_at hl 0 rfl) ?_
      refine g6_1 X I (k := 36) (by decide) rfl lf_X6_15 dX6_put_89 ?_
      refine lv_iload_n X.1 X.2.1 dX6_put_92 rfl (lv_at hl 3 rfl) ?_
      refine lv_iload_n X.1 X.2.1 dX6_put_93 rfl (lv_at hl 2 rfl) ?_
      refine r_ev I (r_runN X I pk_X11_setCell (c11_setCell l G (k := 38) (n := 7) (by decide) rfl (by decide) _ _ _ _) (by decide +kernel) rfl hl.1 rfl (Nat.le_of_ble_eq_true rfl) dX6_put_94 ⟨Nat.le_of_ble_eq_true rfl, Nat.le_of_ble_eq_true rfl⟩ ⟨Nat.le_refl 0, Nat.le_refl 0⟩) (fun H locs I => ?_)
      refine lv_aload_n X.1 X.2.1 dX6_put_97 rfl (lv_at hl 0 rfl) ?_
      refine lv_dup X.1 X.2.1 dX6_put_98 rfl ?_
      refine g6_2 X I (k := 36) (by decide) rfl lf_X6_18 dX6_put_99 ?_
      refine lv_iconst (v := 1) X.1 X.2.1 dX6_put_102 (by decide) ?_
      refine lv_iadd X.1 X.2.1 dX6_put_103 ?_
      refine p6_2 X I (k := 36) (by decide) rfl lf_X6_18 dX6_put_104 (fun H locs I => ?_)
      have h9 := hE
      exact r_vret X I (e_v h9.symm rfl) dX6_put_107
    · skip
      have hE := ite_f hE c_3
      refine lv_aload_n X.1 X.2.1 dX6_put_23 rfl (lv_at hl 0 rfl) ?_
      refine g6_1 X I (k := 36) (by decide) rfl lf_X6_15 dX6_put_24 ?_
      refine lv_iload_n X.1 X.2.1 dX6_put_27 rfl (lv_at hl 3 rfl) ?_
      refine lv_iconst (v := 1) X.1 X.2.1 dX6_put_28 (by decide) ?_
      refine lv_isub X.1 X.2.1 dX6_put_29 ?_
      refine r_ei I (r_runN X I pk_X11_cell (c11_cell l G (k := 38) (n := 7) (by decide) rfl (by decide) _ _ _) (by decide +kernel) rfl hl.1 rfl (Nat.le_of_ble_eq_true rfl) dX6_put_30 ⟨Nat.le_of_ble_eq_true rfl, Nat.le_of_ble_eq_true rfl⟩ ⟨Nat.le_refl 0, Nat.le_refl 0⟩) (fun H locs I => ?_)
      refine lv_iload_n X.1 X.2.1 dX6_put_33 rfl (lv_at hl 2 rfl) ?_
      refine lv_icmp_le (tgt := 79) X.1 X.2.1 dX6_put_34 (by decide) (fun c_4 => ?_) (fun c_4 => ?_)
      · skip
        have hE := ite_t hE c_4
        refine lv_aload_n X.1 X.2.1 dX6_put_79 rfl (lv_at hl 0 rfl) ?_
        refine g6_0 X I (k := 36) (by decide) rfl lf_X6_9 dX6_put_80 ?_
        refine lv_iload_n X.1 X.2.1 dX6_put_83 rfl (lv_at hl 3 rfl) ?_
        refine lv_iload_n X.1 X.2.1 dX6_put_84 rfl (lv_at hl 1 rfl) ?_
        refine r_ev I (r_runN X I pk_X11_setCell (c11_setCell l G (k := 37) (n := 7) (by decide) rfl (by decide) _ _ _ _) (by decide +kernel) rfl hl.1 rfl (Nat.le_of_ble_eq_true rfl) dX6_put_85 ⟨Nat.le_of_ble_eq_true rfl, Nat.le_of_ble_eq_true rfl⟩ ⟨Nat.le_refl 0, Nat.le_refl 0⟩) (fun H locs I => ?_)
        refine lv_aload_n X.1 X.2.1 dX6_put_88 rfl (lv_at hl 0 rfl) ?_
        refine g6_1 X I (k := 36) (by decide) rfl lf_X6_15 dX6_put_89 ?_
        refine lv_iload_n X.1 X.2.1 dX6_put_92 rfl (lv_at hl 3 rfl) ?_
        refine lv_iload_n X.1 X.2.1 dX6_put_93 rfl (lv_at hl 2 rfl) ?_
        refine r_ev I (r_runN X I pk_X11_setCell (c11_setCell l G (k := 38) (n := 7) (by decide) rfl (by decide) _ _ _ _) (by decide +kernel) rfl hl.1 rfl (Nat.le_of_ble_eq_true rfl) dX6_put_94 ⟨Nat.le_of_ble_eq_true rfl, Nat.le_of_ble_eq_true rfl⟩ ⟨Nat.le_refl 0, Nat.le_refl 0⟩) (fun H locs I => ?_)
        refine lv_aload_n X.1 X.2.1 dX6_put_97 rfl (lv_at hl 0 rfl) ?_
        refine lv_dup X.1 X.2.1 dX6_put_98 rfl ?_
        refine g6_2 X I (k := 36) (by decide) rfl lf_X6_18 dX6_put_99 ?_
        refine lv_iconst (v := 1) X.1 X.2.1 dX6_put_102 (by decide) ?_
        refine lv_iadd X.1 X.2.1 dX6_put_103 ?_
        refine p6_2 X I (k := 36) (by decide) rfl lf_X6_18 dX6_put_104 (fun H locs I => ?_)
        have h9 := hE
        exact r_vret X I (e_v h9.symm rfl) dX6_put_107
      · skip
        have hE := ite_f hE c_4
        refine lv_aload_n X.1 X.2.1 dX6_put_37 rfl (lv_at hl 0 rfl) ?_
        refine g6_0 X I (k := 36) (by decide) rfl lf_X6_9 dX6_put_38 ?_
        refine lv_iload_n X.1 X.2.1 dX6_put_41 rfl (lv_at hl 3 rfl) ?_
        refine lv_aload_n X.1 X.2.1 dX6_put_42 rfl (lv_at hl 0 rfl) ?_
        refine g6_0 X I (k := 36) (by decide) rfl lf_X6_9 dX6_put_43 ?_
        refine lv_iload_n X.1 X.2.1 dX6_put_46 rfl (lv_at hl 3 rfl) ?_
        refine lv_iconst (v := 1) X.1 X.2.1 dX6_put_47 (by decide) ?_
        refine lv_isub X.1 X.2.1 dX6_put_48 ?_
        refine r_ei I (r_runN X I pk_X11_cell (c11_cell l G (k := 37) (n := 7) (by decide) rfl (by decide) _ _ _) (by decide +kernel) rfl hl.1 rfl (Nat.le_of_ble_eq_true rfl) dX6_put_49 ⟨Nat.le_of_ble_eq_true rfl, Nat.le_of_ble_eq_true rfl⟩ ⟨Nat.le_refl 0, Nat.le_refl 0⟩) (fun H locs I => ?_)
        refine r_ev I (r_runN X I pk_X11_setCell (c11_setCell l G (k := 37) (n := 7) (by decide) rfl (by decide) _ _ _ _) (by decide +kernel) rfl hl.1 rfl (Nat.le_of_ble_eq_true rfl) dX6_put_52 ⟨Nat.le_of_ble_eq_true rfl, Nat.le_of_ble_eq_true rfl⟩ ⟨Nat.le_refl 0, Nat.le_refl 0⟩) (fun H locs I => ?_)
        refine lv_aload_n X.1 X.2.1 dX6_put_55 rfl (lv_at hl 0 rfl) ?_
        refine g6_1 X I (k := 36) (by decide) rfl lf_X6_15 dX6_put_56 ?_
        refine lv_iload_n X.1 X.2.1 dX6_put_59 rfl (lv_at hl 3 rfl) ?_
        refine lv_aload_n X.1 X.2.1 dX6_put_60 rfl (lv_at hl 0 rfl) ?_
        refine g6_1 X I (k := 36) (by decide) rfl lf_X6_15 dX6_put_61 ?_
        refine lv_iload_n X.1 X.2.1 dX6_put_64 rfl (lv_at hl 3 rfl) ?_
        refine lv_iconst (v := 1) X.1 X.2.1 dX6_put_65 (by decide) ?_
        refine lv_isub X.1 X.2.1 dX6_put_66 ?_
        refine r_ei I (r_runN X I pk_X11_cell (c11_cell l G (k := 38) (n := 7) (by decide) rfl (by decide) _ _ _) (by decide +kernel) rfl hl.1 rfl (Nat.le_of_ble_eq_true rfl) dX6_put_67 ⟨Nat.le_of_ble_eq_true rfl, Nat.le_of_ble_eq_true rfl⟩ ⟨Nat.le_refl 0, Nat.le_refl 0⟩) (fun H locs I => ?_)
        refine r_ev I (r_runN X I pk_X11_setCell (c11_setCell l G (k := 38) (n := 7) (by decide) rfl (by decide) _ _ _ _) (by decide +kernel) rfl hl.1 rfl (Nat.le_of_ble_eq_true rfl) dX6_put_70 ⟨Nat.le_of_ble_eq_true rfl, Nat.le_of_ble_eq_true rfl⟩ ⟨Nat.le_refl 0, Nat.le_refl 0⟩) (fun H locs I => ?_)
        refine lv_iinc (v := _ + (-1)) (lv' := [(3, .int _), (0, .ref _), (1, .int _), (2, .int _)]) X.1 X.2.1 dX6_put_73 hl (k := 3) rfl rfl (by decide) rfl (fun ls hl => ?_)
        refine lv_goto (tgt := 19) X.1 X.2.1 dX6_put_76 (by decide) ?_
        exact ih _ _ _ _ _ I (lv_sub hl [1, 2, 3, 0] rfl) (Nat.lt_of_lt_of_le (dn_dec c_3) (Nat.le_of_lt_succ hm)) (hE.trans (rfl))
set_option maxHeartbeats 4000000 in
set_option maxRecDepth 100000 in
theorem c6_put (l : Launch) (G : GT) (σ : SI) (τ : SL) (x1 : Int32) (x2 : Int32) : Mc l yX6_put cX6_put 4 none 1 G [.ref (G.2.1 36), .int x1, .int x2] σ τ (Qv G (Ev (f6_put σ x1 x2) τ)) := by
  refine m_start (by decide +kernel) (Nat.le_of_ble_eq_true rfl) rfl (fun p e s m args below meth c ls X I hl => ?_)
  have hl : lv_has ls 4 [(0, .ref (G.2.1 36)), (1, .int x1), (2, .int x2)] := hl
  obtain ⟨E, hE⟩ : ∃ E, E = (f6_put σ x1 x2) := ⟨_, rfl⟩
  rw [← hE]
  refine lv_iload_n X.1 X.2.1 dX6_put_0 rfl (lv_at hl 2 rfl) ?_
  refine lv_if_le (tgt := 13) X.1 X.2.1 dX6_put_1 (by decide) (fun c_1 => ?_) (fun c_1 => ?_)
  · skip
    have hE := ite_t hE c_1
    have h9 := hE
    exact r_vret X I (e_v h9.symm rfl) dX6_put_13
  · skip
    have hE := ite_f hE c_1
    refine lv_aload_n X.1 X.2.1 dX6_put_4 rfl (lv_at hl 0 rfl) ?_
    refine g6_2 X I (k := 36) (by decide) rfl lf_X6_18 dX6_put_5 ?_
    refine lv_bipush (v := 7) X.1 X.2.1 dX6_put_8 (by decide) ?_
    refine lv_icmp_lt (tgt := 14) X.1 X.2.1 dX6_put_10 (by decide) (fun c_2 => ?_) (fun c_2 => ?_)
    · skip
      have hE := ite_t hE c_2
      refine lv_aload_n X.1 X.2.1 dX6_put_14 rfl (lv_at hl 0 rfl) ?_
      refine g6_2 X I (k := 36) (by decide) rfl lf_X6_18 dX6_put_15 ?_
      refine lv_istore_n (lv' := [(3, .int _), (0, .ref _), (1, .int _), (2, .int _)]) X.1 X.2.1 dX6_put_18 rfl hl (by decide) rfl (fun ls hl => ?_)
      exact c6_put_c19 X _ _ _ _ _ _ _ _ _ I (lv_sub hl [1, 2, 3, 0] rfl) (fu1_lt _) (hE.trans (rfl))
    · skip
      have hE := ite_f hE c_2
      have h9 := hE
      exact r_vret X I (e_v h9.symm rfl) dX6_put_13
