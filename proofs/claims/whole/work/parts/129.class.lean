noncomputable def f11_tallied (σ : SI) (x1 : Int32) : Int32 × SI := if x1 < (0 : Int32) then ((0 : Int32), σ) else (if x1 < (61 : Int32) then (let s0 := sp σ 40 (Int32.toNatClampNeg x1) ((σ 40 (Int32.toNatClampNeg x1)) + (1 : Int32)); ((s0 40 (Int32.toNatClampNeg x1)), s0)) else ((0 : Int32), σ))
theorem w_f11_tallied (σ : SI) (x1 : Int32) (a : Nat) (h0 : a ≠ 40) : (f11_tallied σ x1).2 a = σ a := by
  refine fp_to2 ?_
  unfold f11_tallied
  exact (fr_ite2 (fr_mk21 rfl) (fr_ite2 (fr_mk21 (sp_n h0)) (fr_mk21 rfl)))
set_option maxHeartbeats 4000000 in
set_option maxRecDepth 100000 in
theorem c11_tallied (l : Launch) (G : GT) (σ : SI) (τ : SL) (x1 : Int32) : Mc l yX11_tallied cX11_tallied 2 (some .int) 0 G [.ref (G.2.1 0), .int x1] σ τ (Qi G (Ei (f11_tallied σ x1).1 (f11_tallied σ x1).2 τ)) := by
  refine m_start (by decide +kernel) (Nat.le_of_ble_eq_true rfl) rfl (fun p e s m args below meth c ls X I hl => ?_)
  have hl : lv_has ls 2 [(0, .ref (G.2.1 0)), (1, .int x1)] := hl
  obtain ⟨E, hE⟩ : ∃ E, E = (f11_tallied σ x1) := ⟨_, rfl⟩
  rw [← hE]
  refine lv_iload_n X.1 X.2.1 dX11_tallied_0 rfl (lv_at hl 1 rfl) ?_
  refine lv_if_lt (tgt := 13) X.1 X.2.1 dX11_tallied_1 (by decide) (fun c_1 => ?_) (fun c_1 => ?_)
  · skip
    have hE := ite_t hE c_1
    refine lv_iconst (v := 0) X.1 X.2.1 dX11_tallied_13 (by decide) ?_
    have h9 := hE
    exact r_iret X I (e_i (pr_fst h9) (pr_snd h9) rfl) dX11_tallied_14
  · skip
    have hE := ite_f hE c_1
    refine lv_iload_n X.1 X.2.1 dX11_tallied_4 rfl (lv_at hl 1 rfl) ?_
    refine lv_aload_n X.1 X.2.1 dX11_tallied_5 rfl (lv_at hl 0 rfl) ?_
    refine g11_11 X I (k := 0) (by decide) rfl lf_X11_87 dX11_tallied_6 ?_
    refine r_alen X I (k := 40) (n := 61) (by decide) rfl (v := 61) rfl dX11_tallied_9 ?_
    refine lv_icmp_lt (tgt := 15) X.1 X.2.1 dX11_tallied_10 (by decide) (fun c_2 => ?_) (fun c_2 => ?_)
    · skip
      have hE := ite_t hE c_2
      refine lv_aload_n X.1 X.2.1 dX11_tallied_15 rfl (lv_at hl 0 rfl) ?_
      refine g11_11 X I (k := 0) (by decide) rfl lf_X11_87 dX11_tallied_16 ?_
      refine lv_iload_n X.1 X.2.1 dX11_tallied_19 rfl (lv_at hl 1 rfl) ?_
      refine lv_dup2_11 X.1 X.2.1 dX11_tallied_20 rfl rfl ?_
      refine r_ald X I (k := 40) (n := 61) (by decide) rfl (vp_g (n := 61) (by decide) c_1 (vp_lt c_2)) dX11_tallied_21 ?_
      refine lv_iconst (v := 1) X.1 X.2.1 dX11_tallied_22 (by decide) ?_
      refine lv_iadd X.1 X.2.1 dX11_tallied_23 ?_
      refine r_ast X I (k := 40) (n := 61) (by decide) rfl (vp_g (n := 61) (by decide) c_1 (vp_lt c_2)) dX11_tallied_24 (fun H locs I => ?_)
      refine lv_aload_n X.1 X.2.1 dX11_tallied_25 rfl (lv_at hl 0 rfl) ?_
      refine g11_11 X I (k := 0) (by decide) rfl lf_X11_87 dX11_tallied_26 ?_
      refine lv_iload_n X.1 X.2.1 dX11_tallied_29 rfl (lv_at hl 1 rfl) ?_
      refine r_ald X I (k := 40) (n := 61) (by decide) rfl (vp_g (n := 61) (by decide) c_1 (vp_lt c_2)) dX11_tallied_30 ?_
      have h9 := hE
      exact r_iret X I (e_i (pr_fst h9) (pr_snd h9) rfl) dX11_tallied_31
    · skip
      have hE := ite_f hE c_2
      refine lv_iconst (v := 0) X.1 X.2.1 dX11_tallied_13 (by decide) ?_
      have h9 := hE
      exact r_iret X I (e_i (pr_fst h9) (pr_snd h9) rfl) dX11_tallied_14
noncomputable def f11_mostAlike_c29 (x1 : Int32) (x2 : Int32) (K : Int32 → Int32 → SI → (Int32 × SI)) : Nat → Int32 → Int32 → SI → (Int32 × SI)
  | 0, v3, v4, σ => (K v3 v4 σ)
  | fu + 1, v3, v4, σ => if (30 : Int32) < v4 then (K v3 v4 σ) else (let r0 := (f11_isFitting σ x1 v4); if r0.1 = true then (let r1 := (f11_standsFirst r0.2 x1 v4 x2); let r2 := (f11_tallied r1.2 r1.1); (f11_mostAlike_c29 x1 x2 K fu (if v3 < r2.1 then r2.1 else v3) (v4 + 1) r2.2)) else (f11_mostAlike_c29 x1 x2 K fu v3 (v4 + 1) r0.2))
noncomputable def f11_mostAlike_c2 (x1 : Int32) (x2 : Int32) : Nat → Int32 → SI → (Int32 × SI)
  | 0, _, σ => (0, σ)
  | fu + 1, v3, σ => if (61 : Int32) ≤ v3 then (f11_mostAlike_c29 x1 x2 (fun (y1_3 : Int32) (y1_4 : Int32) (σk1 : SI) => (y1_3, σk1)) (fu1 ((Int32.toInt (30 : Int32) + 1 - Int32.toInt (0 : Int32)).toNat)) (0 : Int32) (0 : Int32) σ) else (let s3 := sp σ 40 (Int32.toNatClampNeg v3) (0 : Int32); (f11_mostAlike_c2 x1 x2 fu (v3 + 1) s3))
noncomputable def f11_mostAlike (σ : SI) (x1 : Int32) (x2 : Int32) : Int32 × SI := (f11_mostAlike_c2 x1 x2 (fu1 ((Int32.toInt (61 : Int32) - Int32.toInt (0 : Int32)).toNat)) (0 : Int32) σ)
theorem w_f11_mostAlike_c29 (x1 : Int32) (x2 : Int32) {K : Int32 → Int32 → SI → (Int32 × SI)} (a : Nat) (h0 : a ≠ 13) (h1 : a ≠ 15) (h2 : a ≠ 40) (hK : ∀ (v3 : Int32) (v4 : Int32) (σ : SI), (K v3 v4 σ).2 a = σ a) : ∀ (fu : Nat) (v3 : Int32) (v4 : Int32) (σ : SI), (f11_mostAlike_c29 x1 x2 K fu v3 v4 σ).2 a = σ a := by
  intro fu
  induction fu with
  | zero => intro v3 v4 σ; exact hK v3 v4 σ
  | succ fu ih =>
    intro v3 v4 σ
    refine fp_to2 ?_
    unfold f11_mostAlike_c29
    exact (fr_ite2 (fp_of2 ((hK _ _ _))) (fr_ite2 (fp_of2 (((ih _ _ _).trans ((w_f11_tallied _ _ a h2).trans ((w_f11_standsFirst _ _ _ _ a h0 h1).trans (w_f11_isFitting _ _ _ a h0 h1)))))) (fp_of2 (((ih _ _ _).trans (w_f11_isFitting _ _ _ a h0 h1))))))
theorem w_f11_mostAlike_c2 (x1 : Int32) (x2 : Int32) (a : Nat) (h0 : a ≠ 13) (h1 : a ≠ 15) (h2 : a ≠ 40) : ∀ (fu : Nat) (v3 : Int32) (σ : SI), (f11_mostAlike_c2 x1 x2 fu v3 σ).2 a = σ a := by
  intro fu
  induction fu with
  | zero => intro v3 σ; exact rfl
  | succ fu ih =>
    intro v3 σ
    refine fp_to2 ?_
    unfold f11_mostAlike_c2
    exact (fr_ite2 (fp_of2 ((w_f11_mostAlike_c29 _ _ a h0 h1 h2 (fun y1_3 y1_4 σk1 => (fp_to2 ((fr_mk21 rfl)))) _ _ _ _))) (fp_of2 (((ih _ _).trans (sp_n h2)))))
theorem w_f11_mostAlike (σ : SI) (x1 : Int32) (x2 : Int32) (a : Nat) (h0 : a ≠ 13) (h1 : a ≠ 15) (h2 : a ≠ 40) : (f11_mostAlike σ x1 x2).2 a = σ a := by
  refine fp_to2 ?_
  unfold f11_mostAlike
  exact (fp_of2 ((w_f11_mostAlike_c2 _ _ a h0 h1 h2 _ _ _)))
set_option maxHeartbeats 4000000 in
set_option maxRecDepth 100000 in
theorem c11_mostAlike_c29 {l : Launch} {p : Program} {e : Env} {s : State} {m : MethodId} {args : Array Value} {below : List Frame} {meth : Method} {c : Code} {G : GT} (X : CX p s m args meth c cX11_mostAlike RX11 5 (some .int) G) {E : Int32 × SI} (τ : SL) (x1 : Int32) (x2 : Int32) {K : Int32 → Int32 → SI → (Int32 × SI)} (hK : ∀ (v3 : Int32) (v4 : Int32) (σ : SI) (H : Heap) (locs : List Loc) (ls : Array Slot), IX G s H locs σ τ → lv_has ls 5 [(0, .ref (G.2.1 0)), (1, .int x1), (2, .int x2), (3, .int v3), (4, .int v4)] → E = K v3 v4 σ → W p l e (rmN 6) s m args below meth c H locs 0 0 (MQ below ((Qi G (Ei E.1 E.2 τ)) s.heap.size) args s 0 0 (AW G s.heap.size)) (F0 m 69 ls [])) : ∀ (fu : Nat) (v3 : Int32) (v4 : Int32) (σ : SI) (H : Heap) (locs : List Loc) (ls : Array Slot), IX G s H locs σ τ → lv_has ls 5 [(0, .ref (G.2.1 0)), (1, .int x1), (2, .int x2), (3, .int v3), (4, .int v4)] → (Int32.toInt (30 : Int32) + 1 - Int32.toInt v4).toNat < fu → E = (f11_mostAlike_c29 x1 x2 K fu v3 v4 σ) → W p l e (rmN 6) s m args below meth c H locs 0 0 (MQ below ((Qi G (Ei E.1 E.2 τ)) s.heap.size) args s 0 0 (AW G s.heap.size)) (F0 m 29 ls []) := by
  intro fu
  induction fu with
  | zero =>
    intro v3 v4 σ H locs ls I hl  hm hE
    exact absurd hm (Nat.not_lt_zero _)
  | succ fu ih =>
    intro v3 v4 σ H locs ls I hl  hm hE
    refine lv_iload X.1 X.2.1 dX11_mostAlike_29 (lv_at hl 4 rfl) ?_
    refine lv_bipush (v := 30) X.1 X.2.1 dX11_mostAlike_31 (by decide) ?_
    refine lv_icmp_gt (tgt := 69) X.1 X.2.1 dX11_mostAlike_33 (by decide) (fun c_2 => ?_) (fun c_2 => ?_)
    · skip
      have hE := ite_t hE c_2
      exact hK _ _ _ _ _ _ I (lv_sub hl [0, 1, 2, 3, 4] rfl) (hE.trans (rfl))
    · skip
      have hE := ite_f hE c_2
      refine lv_aload_n X.1 X.2.1 dX11_mostAlike_36 rfl (lv_at hl 0 rfl) ?_
      refine lv_iload_n X.1 X.2.1 dX11_mostAlike_37 rfl (lv_at hl 1 rfl) ?_
      refine lv_iload X.1 X.2.1 dX11_mostAlike_38 (lv_at hl 4 rfl) ?_
      refine r_ei I (r_runV X I pk_X11_isFitting (c11_isFitting l G _ _ _ _) lm_X11_358 (by decide) (cl_11 rfl) rfl rfl rfl hl.1 rfl (Nat.le_of_ble_eq_true rfl) dX11_mostAlike_40 ⟨Nat.le_of_ble_eq_true rfl, Nat.le_of_ble_eq_true rfl⟩ ⟨Nat.le_refl 0, Nat.le_refl 0⟩) (fun H locs I => ?_)
      refine lv_if_eq (tgt := 63) X.1 X.2.1 dX11_mostAlike_43 (by decide) (fun c_3 => ?_) (fun c_3 => ?_)
      · skip
        have hE := ite_f hE (b2i_n c_3)
        refine lv_iinc (v := _ + 1) (lv' := [(4, .int _), (0, .ref _), (1, .int _), (2, .int _), (3, .int _)]) X.1 X.2.1 dX11_mostAlike_63 hl (k := 4) rfl rfl (by decide) rfl (fun ls hl => ?_)
        refine lv_goto (tgt := 29) X.1 X.2.1 dX11_mostAlike_66 (by decide) ?_
        exact ih _ _ _ _ _ _ I (lv_sub hl [1, 2, 3, 4, 0] rfl) (Nat.lt_of_lt_of_le (up_decE (by decide) c_2) (Nat.le_of_lt_succ hm)) (hE.trans (rfl))
      · skip
        have hE := ite_t hE (b2i_y c_3)
        refine lv_iload_n X.1 X.2.1 dX11_mostAlike_46 rfl (lv_at hl 3 rfl) ?_
        refine lv_aload_n X.1 X.2.1 dX11_mostAlike_47 rfl (lv_at hl 0 rfl) ?_
        refine lv_aload_n X.1 X.2.1 dX11_mostAlike_48 rfl (lv_at hl 0 rfl) ?_
        refine lv_iload_n X.1 X.2.1 dX11_mostAlike_49 rfl (lv_at hl 1 rfl) ?_
        refine lv_iload X.1 X.2.1 dX11_mostAlike_50 (lv_at hl 4 rfl) ?_
        refine lv_iload_n X.1 X.2.1 dX11_mostAlike_52 rfl (lv_at hl 2 rfl) ?_
        refine r_ei I (r_runV X I pk_X11_standsFirst (c11_standsFirst l G _ _ _ _ _) lm_X11_370 (by decide) (cl_11 rfl) rfl rfl rfl hl.1 rfl (Nat.le_of_ble_eq_true rfl) dX11_mostAlike_53 ⟨Nat.le_of_ble_eq_true rfl, Nat.le_of_ble_eq_true rfl⟩ ⟨Nat.le_refl 0, Nat.le_refl 0⟩) (fun H locs I => ?_)
        refine r_ei I (r_runV X I pk_X11_tallied (c11_tallied l G _ _ _) lm_X11_379 (by decide) (cl_11 rfl) rfl rfl rfl hl.1 rfl (Nat.le_of_ble_eq_true rfl) dX11_mostAlike_56 ⟨Nat.le_of_ble_eq_true rfl, Nat.le_of_ble_eq_true rfl⟩ ⟨Nat.le_refl 0, Nat.le_refl 0⟩) (fun H locs I => ?_)
        refine r_mmax X hl.1 lm_X11_269 ls_J9_max_7cf53 ln_J9 lc_J9_max_7cf53 (Nat.le_of_ble_eq_true rfl) (Nat.le_of_ble_eq_true rfl) (Nat.le_refl 0) (Nat.le_refl 0) dX11_mostAlike_59 ?_
        refine lv_istore_n (lv' := [(3, .int _), (0, .ref _), (1, .int _), (2, .int _), (4, .int _)]) X.1 X.2.1 dX11_mostAlike_62 rfl hl (by decide) rfl (fun ls hl => ?_)
        refine lv_iinc (v := _ + 1) (lv' := [(4, .int _), (3, .int _), (0, .ref _), (1, .int _), (2, .int _)]) X.1 X.2.1 dX11_mostAlike_63 hl (k := 4) rfl rfl (by decide) rfl (fun ls hl => ?_)
        refine lv_goto (tgt := 29) X.1 X.2.1 dX11_mostAlike_66 (by decide) ?_
        exact ih _ _ _ _ _ _ I (lv_sub hl [2, 3, 4, 1, 0] rfl) (Nat.lt_of_lt_of_le (up_decE (by decide) c_2) (Nat.le_of_lt_succ hm)) (hE.trans (rfl))
set_option maxHeartbeats 4000000 in
set_option maxRecDepth 100000 in
theorem c11_mostAlike_c2 {l : Launch} {p : Program} {e : Env} {s : State} {m : MethodId} {args : Array Value} {below : List Frame} {meth : Method} {c : Code} {G : GT} (X : CX p s m args meth c cX11_mostAlike RX11 5 (some .int) G) {E : Int32 × SI} (τ : SL) (x1 : Int32) (x2 : Int32) : ∀ (fu : Nat) (v3 : Int32) (σ : SI) (H : Heap) (locs : List Loc) (ls : Array Slot), IX G s H locs σ τ → lv_has ls 5 [(0, .ref (G.2.1 0)), (1, .int x1), (2, .int x2), (3, .int v3)] → ¬ v3 < 0 → (Int32.toInt (61 : Int32) - Int32.toInt v3).toNat < fu → E = (f11_mostAlike_c2 x1 x2 fu v3 σ) → W p l e (rmN 6) s m args below meth c H locs 0 0 (MQ below ((Qi G (Ei E.1 E.2 τ)) s.heap.size) args s 0 0 (AW G s.heap.size)) (F0 m 2 ls []) := by
  intro fu
  induction fu with
  | zero =>
    intro v3 σ H locs ls I hl h0 hm hE
    exact absurd hm (Nat.not_lt_zero _)
  | succ fu ih =>
    intro v3 σ H locs ls I hl h0 hm hE
    refine lv_iload_n X.1 X.2.1 dX11_mostAlike_2 rfl (lv_at hl 3 rfl) ?_
    refine lv_aload_n X.1 X.2.1 dX11_mostAlike_3 rfl (lv_at hl 0 rfl) ?_
    refine g11_11 X I (k := 0) (by decide) rfl lf_X11_87 dX11_mostAlike_4 ?_
    refine r_alen X I (k := 40) (n := 61) (by decide) rfl (v := 61) rfl dX11_mostAlike_7 ?_
    refine lv_icmp_ge (tgt := 24) X.1 X.2.1 dX11_mostAlike_8 (by decide) (fun c_1 => ?_) (fun c_1 => ?_)
    · skip
      have hE := ite_t hE c_1
      refine lv_iconst (v := 0) X.1 X.2.1 dX11_mostAlike_24 (by decide) ?_
      refine lv_istore_n (lv' := [(3, .int _), (0, .ref _), (1, .int _), (2, .int _)]) X.1 X.2.1 dX11_mostAlike_25 rfl hl (by decide) rfl (fun ls hl => ?_)
      refine lv_iconst (v := 0) X.1 X.2.1 dX11_mostAlike_26 (by decide) ?_
      refine lv_istore (lv' := [(4, .int _), (3, .int _), (0, .ref _), (1, .int _), (2, .int _)]) X.1 X.2.1 dX11_mostAlike_27 hl (by decide) rfl (fun ls hl => ?_)
      refine c11_mostAlike_c29 X _ _ _ (fun y1_3 y1_4 σk1 H locs ls I hl hE => ?_) _ _ _ _ _ _ _ I (lv_sub hl [2, 3, 4, 1, 0] rfl) (fu1_lt _) (hE.trans (rfl))
      refine lv_iload_n X.1 X.2.1 dX11_mostAlike_69 rfl (lv_at hl 3 rfl) ?_
      have h9 := hE
      exact r_iret X I (e_i (pr_fst h9) (pr_snd h9) rfl) dX11_mostAlike_70
    · skip
      have hE := ite_f hE c_1
      refine lv_aload_n X.1 X.2.1 dX11_mostAlike_11 rfl (lv_at hl 0 rfl) ?_
      refine g11_11 X I (k := 0) (by decide) rfl lf_X11_87 dX11_mostAlike_12 ?_
      refine lv_iload_n X.1 X.2.1 dX11_mostAlike_15 rfl (lv_at hl 3 rfl) ?_
      refine lv_iconst (v := 0) X.1 X.2.1 dX11_mostAlike_16 (by decide) ?_
      refine r_ast X I (k := 40) (n := 61) (by decide) rfl (vp_g (n := 61) (by decide) h0 c_1) dX11_mostAlike_17 (fun H locs I => ?_)
      refine lv_iinc (v := _ + 1) (lv' := [(3, .int _), (0, .ref _), (1, .int _), (2, .int _)]) X.1 X.2.1 dX11_mostAlike_18 hl (k := 3) rfl rfl (by decide) rfl (fun ls hl => ?_)
      refine lv_goto (tgt := 2) X.1 X.2.1 dX11_mostAlike_21 (by decide) ?_
      exact ih _ _ _ _ _ I (lv_sub hl [1, 2, 3, 0] rfl) (up_nn h0 c_1) (Nat.lt_of_lt_of_le (up_dec c_1) (Nat.le_of_lt_succ hm)) (hE.trans (rfl))
set_option maxHeartbeats 4000000 in
set_option maxRecDepth 100000 in
theorem c11_mostAlike (l : Launch) (G : GT) (σ : SI) (τ : SL) (x1 : Int32) (x2 : Int32) : Mc l yX11_mostAlike cX11_mostAlike 5 (some .int) 6 G [.ref (G.2.1 0), .int x1, .int x2] σ τ (Qi G (Ei (f11_mostAlike σ x1 x2).1 (f11_mostAlike σ x1 x2).2 τ)) := by
  refine m_start (by decide +kernel) (Nat.le_of_ble_eq_true rfl) rfl (fun p e s m args below meth c ls X I hl => ?_)
  have hl : lv_has ls 5 [(0, .ref (G.2.1 0)), (1, .int x1), (2, .int x2)] := hl
  obtain ⟨E, hE⟩ : ∃ E, E = (f11_mostAlike σ x1 x2) := ⟨_, rfl⟩
  rw [← hE]
  refine lv_iconst (v := 0) X.1 X.2.1 dX11_mostAlike_0 (by decide) ?_
  refine lv_istore_n (lv' := [(3, .int _), (0, .ref _), (1, .int _), (2, .int _)]) X.1 X.2.1 dX11_mostAlike_1 rfl hl (by decide) rfl (fun ls hl => ?_)
  exact c11_mostAlike_c2 X _ _ _ _ _ _ _ _ _ I (lv_sub hl [1, 2, 3, 0] rfl) (by decide) (fu1_lt _) (hE.trans (rfl))
noncomputable def f11_ask_c29 (x1 : Int32) : Nat → Int32 → Int32 → Int32 → SI → (Int32 × SI)
  | 0, _, _, _, σ => (0, σ)
  | fu + 1, v2, v3, v4, σ => if (f8_houses 10 σ) ≤ v4 then (v2, σ) else (let r0 := (f11_mostAlike σ v4 x1); if r0.1 ≤ (0 : Int32) then (f11_ask_c29 x1 fu v2 v3 (v4 + 1) r0.2) else (if v2 = (-1 : Int32) then (f11_ask_c29 x1 fu v4 r0.1 (v4 + 1) r0.2) else (if v3 ≤ r0.1 then (f11_ask_c29 x1 fu v2 v3 (v4 + 1) r0.2) else (f11_ask_c29 x1 fu v4 r0.1 (v4 + 1) r0.2))))
noncomputable def f11_ask (σ : SI) (x1 : Int32) : Int32 × SI := if (f8_isTold 10 σ) = true then (if x1 < (0 : Int32) then ((-1 : Int32), σ) else (if x1 ≤ (99 : Int32) then (f11_ask_c29 x1 (fu1 ((Int32.toInt (f8_houses 10 σ) - Int32.toInt (0 : Int32)).toNat)) (-1 : Int32) (0 : Int32) (0 : Int32) σ) else ((-1 : Int32), σ))) else ((-1 : Int32), σ)
theorem w_f11_ask_c29 (x1 : Int32) (a : Nat) (h0 : a ≠ 13) (h1 : a ≠ 15) (h2 : a ≠ 40) : ∀ (fu : Nat) (v2 : Int32) (v3 : Int32) (v4 : Int32) (σ : SI), (f11_ask_c29 x1 fu v2 v3 v4 σ).2 a = σ a := by
  intro fu
  induction fu with
  | zero => intro v2 v3 v4 σ; exact rfl
  | succ fu ih =>
    intro v2 v3 v4 σ
    refine fp_to2 ?_
    unfold f11_ask_c29
    exact (fr_ite2 (fr_mk21 rfl) (fr_ite2 (fp_of2 (((ih _ _ _ _).trans (w_f11_mostAlike _ _ _ a h0 h1 h2)))) (fr_ite2 (fp_of2 (((ih _ _ _ _).trans (w_f11_mostAlike _ _ _ a h0 h1 h2)))) (fr_ite2 (fp_of2 (((ih _ _ _ _).trans (w_f11_mostAlike _ _ _ a h0 h1 h2)))) (fp_of2 (((ih _ _ _ _).trans (w_f11_mostAlike _ _ _ a h0 h1 h2))))))))
theorem w_f11_ask (σ : SI) (x1 : Int32) (a : Nat) (h0 : a ≠ 13) (h1 : a ≠ 15) (h2 : a ≠ 40) : (f11_ask σ x1).2 a = σ a := by
  refine fp_to2 ?_
  unfold f11_ask
  exact (fr_ite2 (fr_ite2 (fr_mk21 rfl) (fr_ite2 (fp_of2 ((w_f11_ask_c29 _ a h0 h1 h2 _ _ _ _ _))) (fr_mk21 rfl))) (fr_mk21 rfl))
set_option maxHeartbeats 4000000 in
set_option maxRecDepth 100000 in
theorem c11_ask_c29 {l : Launch} {p : Program} {e : Env} {s : State} {m : MethodId} {args : Array Value} {below : List Frame} {meth : Method} {c : Code} {G : GT} (X : CX p s m args meth c cX11_ask RX11 6 (some .int) G) {E : Int32 × SI} (τ : SL) (x1 : Int32) : ∀ (fu : Nat) (v2 : Int32) (v3 : Int32) (v4 : Int32) (σ : SI) (H : Heap) (locs : List Loc) (ls : Array Slot), IX G s H locs σ τ → lv_has ls 6 [(0, .ref (G.2.1 0)), (1, .int x1), (2, .int v2), (3, .int v3), (4, .int v4)] → (Int32.toInt (f8_houses 10 σ) - Int32.toInt v4).toNat < fu → E = (f11_ask_c29 x1 fu v2 v3 v4 σ) → W p l e (rmN 7) s m args below meth c H locs 0 0 (MQ below ((Qi G (Ei E.1 E.2 τ)) s.heap.size) args s 0 0 (AW G s.heap.size)) (F0 m 29 ls []) := by
  intro fu
  induction fu with
  | zero =>
    intro v2 v3 v4 σ H locs ls I hl  hm hE
    exact absurd hm (Nat.not_lt_zero _)
  | succ fu ih =>
    intro v2 v3 v4 σ H locs ls I hl  hm hE
    refine lv_iload X.1 X.2.1 dX11_ask_29 (lv_at hl 4 rfl) ?_
    refine lv_aload_n X.1 X.2.1 dX11_ask_31 rfl (lv_at hl 0 rfl) ?_
    refine g11_3 X I (k := 0) (by decide) rfl lf_X11_35 dX11_ask_32 ?_
    refine r_ei I (r_runV X I pk_X8_houses (c8_houses l G (k := 10) ⟨by decide, rfl, rfl, rfl⟩ _ _) lm_X11_151 (by decide) (cl_8 rfl) rfl rfl rfl hl.1 rfl (Nat.le_of_ble_eq_true rfl) dX11_ask_35 ⟨Nat.le_of_ble_eq_true rfl, Nat.le_of_ble_eq_true rfl⟩ ⟨Nat.le_refl 0, Nat.le_refl 0⟩) (fun H locs I => ?_)
    refine lv_icmp_ge (tgt := 78) X.1 X.2.1 dX11_ask_38 (by decide) (fun c_4 => ?_) (fun c_4 => ?_)
    · skip
      have hE := ite_t hE c_4
      refine lv_iload_n X.1 X.2.1 dX11_ask_78 rfl (lv_at hl 2 rfl) ?_
      have h9 := hE
      exact r_iret X I (e_i (pr_fst h9) (pr_snd h9) rfl) dX11_ask_79
    · skip
      have hE := ite_f hE c_4
      refine lv_aload_n X.1 X.2.1 dX11_ask_41 rfl (lv_at hl 0 rfl) ?_
      refine lv_iload X.1 X.2.1 dX11_ask_42 (lv_at hl 4 rfl) ?_
      refine lv_iload_n X.1 X.2.1 dX11_ask_44 rfl (lv_at hl 1 rfl) ?_
      refine r_ei I (r_runV X I pk_X11_mostAlike (c11_mostAlike l G _ _ _ _) lm_X11_376 (by decide) (cl_11 rfl) rfl rfl rfl hl.1 rfl (Nat.le_of_ble_eq_true rfl) dX11_ask_45 ⟨Nat.le_of_ble_eq_true rfl, Nat.le_of_ble_eq_true rfl⟩ ⟨Nat.le_refl 0, Nat.le_refl 0⟩) (fun H locs I => ?_)
      refine lv_istore (lv' := [(5, .int _), (0, .ref _), (1, .int _), (2, .int _), (3, .int _), (4, .int _)]) X.1 X.2.1 dX11_ask_48 hl (by decide) rfl (fun ls hl => ?_)
      refine lv_iload X.1 X.2.1 dX11_ask_50 (lv_at hl 0 rfl) ?_
      refine lv_if_le (tgt := 72) X.1 X.2.1 dX11_ask_52 (by decide) (fun c_5 => ?_) (fun c_5 => ?_)
      · skip
        have hE := ite_t hE c_5
        refine lv_iinc (v := _ + 1) (lv' := [(4, .int _), (5, .int _), (0, .ref _), (1, .int _), (2, .int _), (3, .int _)]) X.1 X.2.1 dX11_ask_72 hl (k := 5) rfl rfl (by decide) rfl (fun ls hl => ?_)
        refine lv_goto (tgt := 29) X.1 X.2.1 dX11_ask_75 (by decide) ?_
        exact ih _ _ _ _ _ _ _ I (lv_sub hl [2, 3, 4, 5, 0] rfl) (Nat.lt_of_lt_of_le (dec_c (by first | with_reducible rfl | simp [f8_houses, f11_cell, w_f11_mostAlike, sp_n]) (up_dec c_4)) (Nat.le_of_lt_succ hm)) (hE.trans (rfl))
      · skip
        have hE := ite_f hE c_5
        refine lv_iload_n X.1 X.2.1 dX11_ask_55 rfl (lv_at hl 3 rfl) ?_
        refine lv_iconst (v := (-1)) X.1 X.2.1 dX11_ask_56 (by decide) ?_
        refine lv_icmp_eq (tgt := 66) X.1 X.2.1 dX11_ask_57 (by decide) (fun c_6 => ?_) (fun c_6 => ?_)
        · skip
          have hE := ite_t hE c_6
          refine lv_iload X.1 X.2.1 dX11_ask_66 (lv_at hl 5 rfl) ?_
          refine lv_istore_n (lv' := [(2, .int _), (5, .int _), (0, .ref _), (1, .int _), (3, .int _), (4, .int _)]) X.1 X.2.1 dX11_ask_68 rfl hl (by decide) rfl (fun ls hl => ?_)
          refine lv_iload X.1 X.2.1 dX11_ask_69 (lv_at hl 1 rfl) ?_
          refine lv_istore_n (lv' := [(3, .int _), (2, .int _), (5, .int _), (0, .ref _), (1, .int _), (4, .int _)]) X.1 X.2.1 dX11_ask_71 rfl hl (by decide) rfl (fun ls hl => ?_)
          refine lv_iinc (v := _ + 1) (lv' := [(4, .int _), (3, .int _), (2, .int _), (5, .int _), (0, .ref _), (1, .int _)]) X.1 X.2.1 dX11_ask_72 hl (k := 5) rfl rfl (by decide) rfl (fun ls hl => ?_)
          refine lv_goto (tgt := 29) X.1 X.2.1 dX11_ask_75 (by decide) ?_
          exact ih _ _ _ _ _ _ _ I (lv_sub hl [4, 5, 2, 1, 0] rfl) (Nat.lt_of_lt_of_le (dec_c (by first | with_reducible rfl | simp [f8_houses, f11_cell, w_f11_mostAlike, sp_n]) (up_dec c_4)) (Nat.le_of_lt_succ hm)) (hE.trans (rfl))
        · skip
          have hE := ite_f hE c_6
          refine lv_iload X.1 X.2.1 dX11_ask_60 (lv_at hl 0 rfl) ?_
          refine lv_iload_n X.1 X.2.1 dX11_ask_62 rfl (lv_at hl 4 rfl) ?_
          refine lv_icmp_ge (tgt := 72) X.1 X.2.1 dX11_ask_63 (by decide) (fun c_7 => ?_) (fun c_7 => ?_)
          · skip
            have hE := ite_t hE c_7
            refine lv_iinc (v := _ + 1) (lv' := [(4, .int _), (5, .int _), (0, .ref _), (1, .int _), (2, .int _), (3, .int _)]) X.1 X.2.1 dX11_ask_72 hl (k := 5) rfl rfl (by decide) rfl (fun ls hl => ?_)
            refine lv_goto (tgt := 29) X.1 X.2.1 dX11_ask_75 (by decide) ?_
            exact ih _ _ _ _ _ _ _ I (lv_sub hl [2, 3, 4, 5, 0] rfl) (Nat.lt_of_lt_of_le (dec_c (by first | with_reducible rfl | simp [f8_houses, f11_cell, w_f11_mostAlike, sp_n]) (up_dec c_4)) (Nat.le_of_lt_succ hm)) (hE.trans (rfl))
          · skip
            have hE := ite_f hE c_7
            refine lv_iload X.1 X.2.1 dX11_ask_66 (lv_at hl 5 rfl) ?_
            refine lv_istore_n (lv' := [(2, .int _), (5, .int _), (0, .ref _), (1, .int _), (3, .int _), (4, .int _)]) X.1 X.2.1 dX11_ask_68 rfl hl (by decide) rfl (fun ls hl => ?_)
            refine lv_iload X.1 X.2.1 dX11_ask_69 (lv_at hl 1 rfl) ?_
            refine lv_istore_n (lv' := [(3, .int _), (2, .int _), (5, .int _), (0, .ref _), (1, .int _), (4, .int _)]) X.1 X.2.1 dX11_ask_71 rfl hl (by decide) rfl (fun ls hl => ?_)
            refine lv_iinc (v := _ + 1) (lv' := [(4, .int _), (3, .int _), (2, .int _), (5, .int _), (0, .ref _), (1, .int _)]) X.1 X.2.1 dX11_ask_72 hl (k := 5) rfl rfl (by decide) rfl (fun ls hl => ?_)
            refine lv_goto (tgt := 29) X.1 X.2.1 dX11_ask_75 (by decide) ?_
            exact ih _ _ _ _ _ _ _ I (lv_sub hl [4, 5, 2, 1, 0] rfl) (Nat.lt_of_lt_of_le (dec_c (by first | with_reducible rfl | simp [f8_houses, f11_cell, w_f11_mostAlike, sp_n]) (up_dec c_4)) (Nat.le_of_lt_succ hm)) (hE.trans (rfl))
set_option maxHeartbeats 4000000 in
set_option maxRecDepth 100000 in
theorem c11_ask (l : Launch) (G : GT) (σ : SI) (τ : SL) (x1 : Int32) : Mc l yX11_ask cX11_ask 6 (some .int) 7 G [.ref (G.2.1 0), .int x1] σ τ (Qi G (Ei (f11_ask σ x1).1 (f11_ask σ x1).2 τ)) := by
  refine m_start (by decide +kernel) (Nat.le_of_ble_eq_true rfl) rfl (fun p e s m args below meth c ls X I hl => ?_)
  have hl : lv_has ls 6 [(0, .ref (G.2.1 0)), (1, .int x1)] := hl
  obtain ⟨E, hE⟩ : ∃ E, E = (f11_ask σ x1) := ⟨_, rfl⟩
  rw [← hE]
  refine lv_aload_n X.1 X.2.1 dX11_ask_0 rfl (lv_at hl 0 rfl) ?_
  refine g11_3 X I (k := 0) (by decide) rfl lf_X11_35 dX11_ask_1 ?_
  refine r_ei I (r_runV X I pk_X8_isTold (c8_isTold l G (k := 10) ⟨by decide, rfl, rfl, rfl⟩ _ _) lm_X11_154 (by decide) (cl_8 rfl) rfl rfl rfl hl.1 rfl (Nat.le_of_ble_eq_true rfl) dX11_ask_4 ⟨Nat.le_of_ble_eq_true rfl, Nat.le_of_ble_eq_true rfl⟩ ⟨Nat.le_refl 0, Nat.le_refl 0⟩) (fun H locs I => ?_)
  refine lv_if_eq (tgt := 20) X.1 X.2.1 dX11_ask_7 (by decide) (fun c_1 => ?_) (fun c_1 => ?_)
  · skip
    have hE := ite_f hE (b2i_n c_1)
    refine lv_iconst (v := (-1)) X.1 X.2.1 dX11_ask_20 (by decide) ?_
    have h9 := hE
    exact r_iret X I (e_i (pr_fst h9) (pr_snd h9) rfl) dX11_ask_21
  · skip
    have hE := ite_t hE (b2i_y c_1)
    refine lv_iload_n X.1 X.2.1 dX11_ask_10 rfl (lv_at hl 1 rfl) ?_
    refine lv_if_lt (tgt := 20) X.1 X.2.1 dX11_ask_11 (by decide) (fun c_2 => ?_) (fun c_2 => ?_)
    · skip
      have hE := ite_t hE c_2
      refine lv_iconst (v := (-1)) X.1 X.2.1 dX11_ask_20 (by decide) ?_
      have h9 := hE
      exact r_iret X I (e_i (pr_fst h9) (pr_snd h9) rfl) dX11_ask_21
    · skip
      have hE := ite_f hE c_2
      refine lv_iload_n X.1 X.2.1 dX11_ask_14 rfl (lv_at hl 1 rfl) ?_
      refine lv_bipush (v := 99) X.1 X.2.1 dX11_ask_15 (by decide) ?_
      refine lv_icmp_le (tgt := 22) X.1 X.2.1 dX11_ask_17 (by decide) (fun c_3 => ?_) (fun c_3 => ?_)
      · skip
        have hE := ite_t hE c_3
        refine lv_iconst (v := (-1)) X.1 X.2.1 dX11_ask_22 (by decide) ?_
        refine lv_istore_n (lv' := [(2, .int _), (0, .ref _), (1, .int _)]) X.1 X.2.1 dX11_ask_23 rfl hl (by decide) rfl (fun ls hl => ?_)
        refine lv_iconst (v := 0) X.1 X.2.1 dX11_ask_24 (by decide) ?_
        refine lv_istore_n (lv' := [(3, .int _), (2, .int _), (0, .ref _), (1, .int _)]) X.1 X.2.1 dX11_ask_25 rfl hl (by decide) rfl (fun ls hl => ?_)
        refine lv_iconst (v := 0) X.1 X.2.1 dX11_ask_26 (by decide) ?_
        refine lv_istore (lv' := [(4, .int _), (3, .int _), (2, .int _), (0, .ref _), (1, .int _)]) X.1 X.2.1 dX11_ask_27 hl (by decide) rfl (fun ls hl => ?_)
        exact c11_ask_c29 X _ _ _ _ _ _ _ _ _ _ I (lv_sub hl [3, 4, 2, 1, 0] rfl) (fu1_lt _) (hE.trans (rfl))
      · skip
        have hE := ite_f hE c_3
        refine lv_iconst (v := (-1)) X.1 X.2.1 dX11_ask_20 (by decide) ?_
        have h9 := hE
        exact r_iret X I (e_i (pr_fst h9) (pr_snd h9) rfl) dX11_ask_21
