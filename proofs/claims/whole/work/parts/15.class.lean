def f11_tallied (σ : SI) (x1 : Int32) : Int32 × SI := if x1 < (0 : Int32) then ((0 : Int32), σ) else (if x1 < (61 : Int32) then (let s0 := sp σ 40 (Int32.toNatClampNeg x1) ((σ 40 (Int32.toNatClampNeg x1)) + (1 : Int32)); ((s0 40 (Int32.toNatClampNeg x1)), s0)) else ((0 : Int32), σ))
theorem w_f11_tallied (σ : SI) (x1 : Int32) (a : Nat) (h0 : a ≠ 40) : (f11_tallied σ x1).2 a = σ a := by
  unfold f11_tallied
  (repeat' split) <;> (first | rfl | (simp only [sp_n, su_n, ne_eq, not_false_eq_true, h0]; done) | (simp [sp_n, su_n, ne_eq, not_false_eq_true, h0]; done))
set_option maxHeartbeats 4000000 in
set_option maxRecDepth 100000 in
theorem c11_tallied (l : Launch) (G : GT) (σ : SI) (τ : SL) (x1 : Int32) : Mc l yX11_tallied cX11_tallied 2 (some .int) 0 G [.ref (G.2.1 0), .int x1] σ τ (Qi G (Ei (f11_tallied σ x1).1 (f11_tallied σ x1).2 τ)) := by
  refine m_start (by decide +kernel) (Nat.le_of_ble_eq_true rfl) rfl (fun p e s m args below meth c ls X I hl => ?_)
  have hl : lv_has ls 2 [(0, .ref (G.2.1 0)), (1, .int x1)] := hl
  obtain ⟨E, hE⟩ : ∃ E, E = (f11_tallied σ x1) := ⟨_, rfl⟩
  rw [← hE]
  refine lv_iload_n X.1 X.2.1 dX11_tallied_0 rfl (lv_at hl 1 rfl) ?_
  refine lv_if_lt (tgt := 13) X.1 X.2.1 dX11_tallied_1 (by decide) (fun c_1 => ?_) (fun c_1 => ?_)
  · skip
    refine lv_iconst (v := 0) X.1 X.2.1 dX11_tallied_13 (by decide) ?_
    have h9 := hE.trans ((if_pos c_1).trans rfl)
    exact r_iret X I (e_i (congrArg Prod.fst h9).symm (congrArg Prod.snd h9).symm rfl) dX11_tallied_14
  · skip
    refine lv_iload_n X.1 X.2.1 dX11_tallied_4 rfl (lv_at hl 1 rfl) ?_
    refine lv_aload_n X.1 X.2.1 dX11_tallied_5 rfl (lv_at hl 0 rfl) ?_
    refine g11_11 X I (k := 0) (by decide) rfl lf_X11_87 dX11_tallied_6 ?_
    refine r_alen X I (k := 40) (n := 61) (by decide) rfl (v := 61) rfl dX11_tallied_9 ?_
    refine lv_icmp_lt (tgt := 15) X.1 X.2.1 dX11_tallied_10 (by decide) (fun c_2 => ?_) (fun c_2 => ?_)
    · skip
      refine lv_aload_n X.1 X.2.1 dX11_tallied_15 rfl (lv_at hl 0 rfl) ?_
      refine g11_11 X I (k := 0) (by decide) rfl lf_X11_87 dX11_tallied_16 ?_
      refine lv_iload_n X.1 X.2.1 dX11_tallied_19 rfl (lv_at hl 1 rfl) ?_
      refine lv_dup2_11 X.1 X.2.1 dX11_tallied_20 rfl rfl ?_
      refine r_ald X I (k := 40) (n := 61) (by decide) rfl (vp_g (n := 61) (by decide) c_1 (vp_lt c_2)) dX11_tallied_21 ?_
      refine lv_iconst (v := 1) X.1 X.2.1 dX11_tallied_22 (by decide) ?_
      refine lv_iadd X.1 X.2.1 dX11_tallied_23 ?_
      refine r_ast X I (k := 40) (n := 61) (by decide) rfl (vp_g (n := 61) (by decide) c_1 (vp_lt c_2)) dX11_tallied_24 (fun H locs I => ?_)
      refine lv_aload_n X.1 X.2.1 dX11_tallied_25 rfl (lv_at hl 0 rfl) ?_
      refine g11_11 X I (k := 0) (by decide) rfl lf_X11_87 dX11_tallied_26 ?_
      refine lv_iload_n X.1 X.2.1 dX11_tallied_29 rfl (lv_at hl 1 rfl) ?_
      refine r_ald X I (k := 40) (n := 61) (by decide) rfl (vp_g (n := 61) (by decide) c_1 (vp_lt c_2)) dX11_tallied_30 ?_
      have h9 := hE.trans ((if_neg c_1).trans ((if_pos c_2).trans rfl))
      exact r_iret X I (e_i (congrArg Prod.fst h9).symm (congrArg Prod.snd h9).symm rfl) dX11_tallied_31
    · skip
      refine lv_iconst (v := 0) X.1 X.2.1 dX11_tallied_13 (by decide) ?_
      have h9 := hE.trans ((if_neg c_1).trans ((if_neg c_2).trans rfl))
      exact r_iret X I (e_i (congrArg Prod.fst h9).symm (congrArg Prod.snd h9).symm rfl) dX11_tallied_14
def f11_mostAlike_c29 (x1 : Int32) (x2 : Int32) (K : Int32 → Int32 → SI → (Int32 × SI)) : Nat → Int32 → Int32 → SI → (Int32 × SI)
  | 0, v3, v4, σ => (K v3 v4 σ)
  | fu + 1, v3, v4, σ => if (30 : Int32) < v4 then (K v3 v4 σ) else (let r0 := (f11_isFitting σ x1 v4); if r0.1 = true then (let r1 := (f11_standsFirst r0.2 x1 v4 x2); let r2 := (f11_tallied r1.2 r1.1); (f11_mostAlike_c29 x1 x2 K fu (if v3 < r2.1 then r2.1 else v3) (v4 + 1) r2.2)) else (f11_mostAlike_c29 x1 x2 K fu v3 (v4 + 1) r0.2))
def f11_mostAlike_c2 (x1 : Int32) (x2 : Int32) : Nat → Int32 → SI → (Int32 × SI)
  | 0, _, σ => (0, σ)
  | fu + 1, v3, σ => if (61 : Int32) ≤ v3 then (f11_mostAlike_c29 x1 x2 (fun (y1_3 : Int32) (y1_4 : Int32) (σk1 : SI) => (y1_3, σk1)) ((Int32.toInt (30 : Int32) + 1 - Int32.toInt (0 : Int32)).toNat + 1) (0 : Int32) (0 : Int32) σ) else (let s3 := sp σ 40 (Int32.toNatClampNeg v3) (0 : Int32); (f11_mostAlike_c2 x1 x2 fu (v3 + 1) s3))
def f11_mostAlike (σ : SI) (x1 : Int32) (x2 : Int32) : Int32 × SI := (f11_mostAlike_c2 x1 x2 ((Int32.toInt (61 : Int32) - Int32.toInt (0 : Int32)).toNat + 1) (0 : Int32) σ)
theorem w_f11_mostAlike_c29 (x1 : Int32) (x2 : Int32) {K : Int32 → Int32 → SI → (Int32 × SI)} (a : Nat) (h0 : a ≠ 13) (h1 : a ≠ 15) (h2 : a ≠ 40) (hK : ∀ (v3 : Int32) (v4 : Int32) (σ : SI), (K v3 v4 σ).2 a = σ a) : ∀ (fu : Nat) (v3 : Int32) (v4 : Int32) (σ : SI), (f11_mostAlike_c29 x1 x2 K fu v3 v4 σ).2 a = σ a := by
  intro fu
  induction fu with
  | zero => intros; exact hK _ _ _
  | succ fu ih =>
    intro v3 v4 σ
    unfold f11_mostAlike_c29
    (repeat' split) <;> (first | rfl | (simp only [sp_n, su_n, ne_eq, not_false_eq_true, h0, h1, h2, w_f11_isFitting, w_f11_standsFirst, w_f11_tallied, hK, ih]; done) | (simp [sp_n, su_n, ne_eq, not_false_eq_true, h0, h1, h2, w_f11_isFitting, w_f11_standsFirst, w_f11_tallied, hK, ih]; done))
theorem w_f11_mostAlike_c2 (x1 : Int32) (x2 : Int32) (a : Nat) (h0 : a ≠ 13) (h1 : a ≠ 15) (h2 : a ≠ 40) : ∀ (fu : Nat) (v3 : Int32) (σ : SI), (f11_mostAlike_c2 x1 x2 fu v3 σ).2 a = σ a := by
  intro fu
  induction fu with
  | zero => intros; rfl
  | succ fu ih =>
    intro v3 σ
    unfold f11_mostAlike_c2
    (repeat' split) <;> (first | rfl | (simp only [sp_n, su_n, ne_eq, not_false_eq_true, h0, h1, h2, w_f11_isFitting, w_f11_standsFirst, w_f11_tallied, w_f11_mostAlike_c29, ih]; done) | (simp [sp_n, su_n, ne_eq, not_false_eq_true, h0, h1, h2, w_f11_isFitting, w_f11_standsFirst, w_f11_tallied, w_f11_mostAlike_c29, ih]; done))
theorem w_f11_mostAlike (σ : SI) (x1 : Int32) (x2 : Int32) (a : Nat) (h0 : a ≠ 13) (h1 : a ≠ 15) (h2 : a ≠ 40) : (f11_mostAlike σ x1 x2).2 a = σ a := by
  unfold f11_mostAlike
  (repeat' split) <;> (first | rfl | (simp only [sp_n, su_n, ne_eq, not_false_eq_true, h0, h1, h2, w_f11_isFitting, w_f11_standsFirst, w_f11_tallied, w_f11_mostAlike_c29, w_f11_mostAlike_c2]; done) | (simp [sp_n, su_n, ne_eq, not_false_eq_true, h0, h1, h2, w_f11_isFitting, w_f11_standsFirst, w_f11_tallied, w_f11_mostAlike_c29, w_f11_mostAlike_c2]; done))
set_option maxHeartbeats 4000000 in
set_option maxRecDepth 100000 in
theorem c11_mostAlike_c29 {l : Launch} {p : Program} {e : Env} {s : State} {m : MethodId} {args : Array Value} {below : List Frame} {meth : Method} {c : Code} {G : GT} (X : CX p s m args meth c cX11_mostAlike RX11 5 (some .int) G) {E : Int32 × SI} (τ : SL) (x1 : Int32) (x2 : Int32) {K : Int32 → Int32 → SI → (Int32 × SI)} (hK : ∀ (v3 : Int32) (v4 : Int32) (σ : SI) (H : Heap) (locs : List Loc) (ls : Array Slot), IX G s H locs σ τ → lv_has ls 5 [(0, .ref (G.2.1 0)), (1, .int x1), (2, .int x2), (3, .int v3), (4, .int v4)] → E = K v3 v4 σ → W p l e (rmN 8) s m args below meth c H locs 0 0 (MQ below ((Qi G (Ei E.1 E.2 τ)) s.heap.size) args s 0 0 (AW G s.heap.size)) (F0 m 69 ls [])) : ∀ (fu : Nat) (v3 : Int32) (v4 : Int32) (σ : SI) (H : Heap) (locs : List Loc) (ls : Array Slot), IX G s H locs σ τ → lv_has ls 5 [(0, .ref (G.2.1 0)), (1, .int x1), (2, .int x2), (3, .int v3), (4, .int v4)] → (Int32.toInt (30 : Int32) + 1 - Int32.toInt v4).toNat < fu → E = (f11_mostAlike_c29 x1 x2 K fu v3 v4 σ) → W p l e (rmN 8) s m args below meth c H locs 0 0 (MQ below ((Qi G (Ei E.1 E.2 τ)) s.heap.size) args s 0 0 (AW G s.heap.size)) (F0 m 29 ls []) := by
  intro fu
  induction fu with
  | zero =>
    intro v3 v4 σ H locs ls I hl  hm hE
    exact absurd hm (Nat.not_lt_zero _)
  | succ fu ih =>
    intro v3 v4 σ H locs ls I hl  hm hE
    refine lv_iload X.1 X.2.1 dX11_mostAlike_29 (lv_at hl 4 rfl) ?_
    refine lv_bipush (v := 30) X.1 X.2.1 dX11_mostAlike_31 (by decide) ?_
    refine lv_icmp_gt (tgt := 69) X.1 X.2.1 dX11_mostAlike_33 (by decide) (fun c_2 => ?_) (fun c_2 => ?_)
    · skip
      exact hK _ _ _ _ _ _ I (lv_sub hl [0, 1, 2, 3, 4] rfl) (hE.trans ((if_pos c_2).trans rfl))
    · skip
      refine lv_aload_n X.1 X.2.1 dX11_mostAlike_36 rfl (lv_at hl 0 rfl) ?_
      refine lv_iload_n X.1 X.2.1 dX11_mostAlike_37 rfl (lv_at hl 1 rfl) ?_
      refine lv_iload X.1 X.2.1 dX11_mostAlike_38 (lv_at hl 4 rfl) ?_
      refine r_ei I (r_runV X I pk_X11_isFitting (c11_isFitting l G _ _ _ _) lm_X11_361 (by decide) (cl_11 rfl) rfl rfl rfl hl.1 rfl (Nat.le_of_ble_eq_true rfl) dX11_mostAlike_40 ⟨Nat.le_of_ble_eq_true rfl, Nat.le_of_ble_eq_true rfl⟩ ⟨Nat.le_refl 0, Nat.le_refl 0⟩) (fun H locs I => ?_)
      refine lv_if_eq (tgt := 63) X.1 X.2.1 dX11_mostAlike_43 (by decide) (fun c_3 => ?_) (fun c_3 => ?_)
      · skip
        refine lv_iinc (v := _ + 1) (lv' := [(4, .int _), (0, .ref _), (1, .int _), (2, .int _), (3, .int _)]) X.1 X.2.1 dX11_mostAlike_63 hl (k := 4) rfl rfl (by decide) rfl (fun ls hl => ?_)
        refine lv_goto (tgt := 29) X.1 X.2.1 dX11_mostAlike_66 (by decide) ?_
        exact ih _ _ _ _ _ _ I (lv_sub hl [1, 2, 3, 4, 0] rfl) (Nat.lt_of_lt_of_le (up_decE (by decide) c_2) (Nat.le_of_lt_succ hm)) (hE.trans ((if_neg c_2).trans ((if_neg (b2i_n c_3)).trans rfl)))
      · skip
        refine lv_iload_n X.1 X.2.1 dX11_mostAlike_46 rfl (lv_at hl 3 rfl) ?_
        refine lv_aload_n X.1 X.2.1 dX11_mostAlike_47 rfl (lv_at hl 0 rfl) ?_
        refine lv_aload_n X.1 X.2.1 dX11_mostAlike_48 rfl (lv_at hl 0 rfl) ?_
        refine lv_iload_n X.1 X.2.1 dX11_mostAlike_49 rfl (lv_at hl 1 rfl) ?_
        refine lv_iload X.1 X.2.1 dX11_mostAlike_50 (lv_at hl 4 rfl) ?_
        refine lv_iload_n X.1 X.2.1 dX11_mostAlike_52 rfl (lv_at hl 2 rfl) ?_
        refine r_ei I (r_runV X I pk_X11_standsFirst (c11_standsFirst l G _ _ _ _ _) lm_X11_373 (by decide) (cl_11 rfl) rfl rfl rfl hl.1 rfl (Nat.le_of_ble_eq_true rfl) dX11_mostAlike_53 ⟨Nat.le_of_ble_eq_true rfl, Nat.le_of_ble_eq_true rfl⟩ ⟨Nat.le_refl 0, Nat.le_refl 0⟩) (fun H locs I => ?_)
        refine r_ei I (r_runV X I pk_X11_tallied (c11_tallied l G _ _ _) lm_X11_382 (by decide) (cl_11 rfl) rfl rfl rfl hl.1 rfl (Nat.le_of_ble_eq_true rfl) dX11_mostAlike_56 ⟨Nat.le_of_ble_eq_true rfl, Nat.le_of_ble_eq_true rfl⟩ ⟨Nat.le_refl 0, Nat.le_refl 0⟩) (fun H locs I => ?_)
        refine r_mmax X hl.1 lm_X11_272 ls_J9_max_7cf53 ln_J9 lc_J9_max_7cf53 (Nat.le_of_ble_eq_true rfl) (Nat.le_of_ble_eq_true rfl) (Nat.le_refl 0) (Nat.le_refl 0) dX11_mostAlike_59 ?_
        refine lv_istore_n (lv' := [(3, .int _), (0, .ref _), (1, .int _), (2, .int _), (4, .int _)]) X.1 X.2.1 dX11_mostAlike_62 rfl hl (by decide) rfl (fun ls hl => ?_)
        refine lv_iinc (v := _ + 1) (lv' := [(4, .int _), (3, .int _), (0, .ref _), (1, .int _), (2, .int _)]) X.1 X.2.1 dX11_mostAlike_63 hl (k := 4) rfl rfl (by decide) rfl (fun ls hl => ?_)
        refine lv_goto (tgt := 29) X.1 X.2.1 dX11_mostAlike_66 (by decide) ?_
        exact ih _ _ _ _ _ _ I (lv_sub hl [2, 3, 4, 1, 0] rfl) (Nat.lt_of_lt_of_le (up_decE (by decide) c_2) (Nat.le_of_lt_succ hm)) (hE.trans ((if_neg c_2).trans ((if_pos (b2i_y c_3)).trans rfl)))
set_option maxHeartbeats 4000000 in
set_option maxRecDepth 100000 in
theorem c11_mostAlike_c2 {l : Launch} {p : Program} {e : Env} {s : State} {m : MethodId} {args : Array Value} {below : List Frame} {meth : Method} {c : Code} {G : GT} (X : CX p s m args meth c cX11_mostAlike RX11 5 (some .int) G) {E : Int32 × SI} (τ : SL) (x1 : Int32) (x2 : Int32) : ∀ (fu : Nat) (v3 : Int32) (σ : SI) (H : Heap) (locs : List Loc) (ls : Array Slot), IX G s H locs σ τ → lv_has ls 5 [(0, .ref (G.2.1 0)), (1, .int x1), (2, .int x2), (3, .int v3)] → ¬ v3 < 0 → (Int32.toInt (61 : Int32) - Int32.toInt v3).toNat < fu → E = (f11_mostAlike_c2 x1 x2 fu v3 σ) → W p l e (rmN 8) s m args below meth c H locs 0 0 (MQ below ((Qi G (Ei E.1 E.2 τ)) s.heap.size) args s 0 0 (AW G s.heap.size)) (F0 m 2 ls []) := by
  intro fu
  induction fu with
  | zero =>
    intro v3 σ H locs ls I hl h0 hm hE
    exact absurd hm (Nat.not_lt_zero _)
  | succ fu ih =>
    intro v3 σ H locs ls I hl h0 hm hE
    refine lv_iload_n X.1 X.2.1 dX11_mostAlike_2 rfl (lv_at hl 3 rfl) ?_
    refine lv_aload_n X.1 X.2.1 dX11_mostAlike_3 rfl (lv_at hl 0 rfl) ?_
    refine g11_11 X I (k := 0) (by decide) rfl lf_X11_87 dX11_mostAlike_4 ?_
    refine r_alen X I (k := 40) (n := 61) (by decide) rfl (v := 61) rfl dX11_mostAlike_7 ?_
    refine lv_icmp_ge (tgt := 24) X.1 X.2.1 dX11_mostAlike_8 (by decide) (fun c_1 => ?_) (fun c_1 => ?_)
    · skip
      refine lv_iconst (v := 0) X.1 X.2.1 dX11_mostAlike_24 (by decide) ?_
      refine lv_istore_n (lv' := [(3, .int _), (0, .ref _), (1, .int _), (2, .int _)]) X.1 X.2.1 dX11_mostAlike_25 rfl hl (by decide) rfl (fun ls hl => ?_)
      refine lv_iconst (v := 0) X.1 X.2.1 dX11_mostAlike_26 (by decide) ?_
      refine lv_istore (lv' := [(4, .int _), (3, .int _), (0, .ref _), (1, .int _), (2, .int _)]) X.1 X.2.1 dX11_mostAlike_27 hl (by decide) rfl (fun ls hl => ?_)
      refine c11_mostAlike_c29 X _ _ _ (fun y1_3 y1_4 σk1 H locs ls I hl hE => ?_) _ _ _ _ _ _ _ I (lv_sub hl [2, 3, 4, 1, 0] rfl) (Nat.lt_succ_self _) (hE.trans ((if_pos c_1).trans rfl))
      refine lv_iload_n X.1 X.2.1 dX11_mostAlike_69 rfl (lv_at hl 3 rfl) ?_
      have h9 := hE
      exact r_iret X I (e_i (congrArg Prod.fst h9).symm (congrArg Prod.snd h9).symm rfl) dX11_mostAlike_70
    · skip
      refine lv_aload_n X.1 X.2.1 dX11_mostAlike_11 rfl (lv_at hl 0 rfl) ?_
      refine g11_11 X I (k := 0) (by decide) rfl lf_X11_87 dX11_mostAlike_12 ?_
      refine lv_iload_n X.1 X.2.1 dX11_mostAlike_15 rfl (lv_at hl 3 rfl) ?_
      refine lv_iconst (v := 0) X.1 X.2.1 dX11_mostAlike_16 (by decide) ?_
      refine r_ast X I (k := 40) (n := 61) (by decide) rfl (vp_g (n := 61) (by decide) h0 c_1) dX11_mostAlike_17 (fun H locs I => ?_)
      refine lv_iinc (v := _ + 1) (lv' := [(3, .int _), (0, .ref _), (1, .int _), (2, .int _)]) X.1 X.2.1 dX11_mostAlike_18 hl (k := 3) rfl rfl (by decide) rfl (fun ls hl => ?_)
      refine lv_goto (tgt := 2) X.1 X.2.1 dX11_mostAlike_21 (by decide) ?_
      exact ih _ _ _ _ _ I (lv_sub hl [1, 2, 3, 0] rfl) (up_nn h0 c_1) (Nat.lt_of_lt_of_le (up_dec c_1) (Nat.le_of_lt_succ hm)) (hE.trans ((if_neg c_1).trans rfl))
set_option maxHeartbeats 4000000 in
set_option maxRecDepth 100000 in
theorem c11_mostAlike (l : Launch) (G : GT) (σ : SI) (τ : SL) (x1 : Int32) (x2 : Int32) : Mc l yX11_mostAlike cX11_mostAlike 5 (some .int) 8 G [.ref (G.2.1 0), .int x1, .int x2] σ τ (Qi G (Ei (f11_mostAlike σ x1 x2).1 (f11_mostAlike σ x1 x2).2 τ)) := by
  refine m_start (by decide +kernel) (Nat.le_of_ble_eq_true rfl) rfl (fun p e s m args below meth c ls X I hl => ?_)
  have hl : lv_has ls 5 [(0, .ref (G.2.1 0)), (1, .int x1), (2, .int x2)] := hl
  obtain ⟨E, hE⟩ : ∃ E, E = (f11_mostAlike σ x1 x2) := ⟨_, rfl⟩
  rw [← hE]
  refine lv_iconst (v := 0) X.1 X.2.1 dX11_mostAlike_0 (by decide) ?_
  refine lv_istore_n (lv' := [(3, .int _), (0, .ref _), (1, .int _), (2, .int _)]) X.1 X.2.1 dX11_mostAlike_1 rfl hl (by decide) rfl (fun ls hl => ?_)
  exact c11_mostAlike_c2 X _ _ _ _ _ _ _ _ _ I (lv_sub hl [1, 2, 3, 0] rfl) (by decide) (Nat.lt_succ_self _) (hE.trans (rfl))
def f11_ask_c29 (x1 : Int32) : Nat → Int32 → Int32 → Int32 → SI → (Int32 × SI)
  | 0, _, _, _, σ => (0, σ)
  | fu + 1, v2, v3, v4, σ => if (f8_houses 10 σ) ≤ v4 then (v2, σ) else (let r0 := (f11_mostAlike σ v4 x1); if r0.1 ≤ (0 : Int32) then (f11_ask_c29 x1 fu v2 v3 (v4 + 1) r0.2) else (if v2 = (-1 : Int32) then (f11_ask_c29 x1 fu v4 r0.1 (v4 + 1) r0.2) else (if v3 ≤ r0.1 then (f11_ask_c29 x1 fu v2 v3 (v4 + 1) r0.2) else (f11_ask_c29 x1 fu v4 r0.1 (v4 + 1) r0.2))))
def f11_ask (σ : SI) (x1 : Int32) : Int32 × SI := if (f8_isTold 10 σ) = true then (if x1 < (0 : Int32) then ((-1 : Int32), σ) else (if x1 ≤ (99 : Int32) then (f11_ask_c29 x1 ((Int32.toInt (f8_houses 10 σ) - Int32.toInt (0 : Int32)).toNat + 1) (-1 : Int32) (0 : Int32) (0 : Int32) σ) else ((-1 : Int32), σ))) else ((-1 : Int32), σ)
theorem w_f11_ask_c29 (x1 : Int32) (a : Nat) (h0 : a ≠ 13) (h1 : a ≠ 15) (h2 : a ≠ 40) : ∀ (fu : Nat) (v2 : Int32) (v3 : Int32) (v4 : Int32) (σ : SI), (f11_ask_c29 x1 fu v2 v3 v4 σ).2 a = σ a := by
  intro fu
  induction fu with
  | zero => intros; rfl
  | succ fu ih =>
    intro v2 v3 v4 σ
    unfold f11_ask_c29
    (repeat' split) <;> (first | rfl | (simp only [sp_n, su_n, ne_eq, not_false_eq_true, h0, h1, h2, w_f11_mostAlike, ih]; done) | (simp [sp_n, su_n, ne_eq, not_false_eq_true, h0, h1, h2, w_f11_mostAlike, ih]; done))
theorem w_f11_ask (σ : SI) (x1 : Int32) (a : Nat) (h0 : a ≠ 13) (h1 : a ≠ 15) (h2 : a ≠ 40) : (f11_ask σ x1).2 a = σ a := by
  unfold f11_ask
  (repeat' split) <;> (first | rfl | (simp only [sp_n, su_n, ne_eq, not_false_eq_true, h0, h1, h2, w_f11_mostAlike, w_f11_ask_c29]; done) | (simp [sp_n, su_n, ne_eq, not_false_eq_true, h0, h1, h2, w_f11_mostAlike, w_f11_ask_c29]; done))
set_option maxHeartbeats 4000000 in
set_option maxRecDepth 100000 in
theorem c11_ask_c29 {l : Launch} {p : Program} {e : Env} {s : State} {m : MethodId} {args : Array Value} {below : List Frame} {meth : Method} {c : Code} {G : GT} (X : CX p s m args meth c cX11_ask RX11 6 (some .int) G) {E : Int32 × SI} (τ : SL) (x1 : Int32) : ∀ (fu : Nat) (v2 : Int32) (v3 : Int32) (v4 : Int32) (σ : SI) (H : Heap) (locs : List Loc) (ls : Array Slot), IX G s H locs σ τ → lv_has ls 6 [(0, .ref (G.2.1 0)), (1, .int x1), (2, .int v2), (3, .int v3), (4, .int v4)] → (Int32.toInt (f8_houses 10 σ) - Int32.toInt v4).toNat < fu → E = (f11_ask_c29 x1 fu v2 v3 v4 σ) → W p l e (rmN 9) s m args below meth c H locs 0 0 (MQ below ((Qi G (Ei E.1 E.2 τ)) s.heap.size) args s 0 0 (AW G s.heap.size)) (F0 m 29 ls []) := by
  intro fu
  induction fu with
  | zero =>
    intro v2 v3 v4 σ H locs ls I hl  hm hE
    exact absurd hm (Nat.not_lt_zero _)
  | succ fu ih =>
    intro v2 v3 v4 σ H locs ls I hl  hm hE
    refine lv_iload X.1 X.2.1 dX11_ask_29 (lv_at hl 4 rfl) ?_
    refine lv_aload_n X.1 X.2.1 dX11_ask_31 rfl (lv_at hl 0 rfl) ?_
    refine g11_3 X I (k := 0) (by decide) rfl lf_X11_35 dX11_ask_32 ?_
    refine r_ei I (r_runV X I pk_X8_houses (c8_houses l G (k := 10) ⟨by decide, rfl, rfl, rfl⟩ _ _) lm_X11_155 (by decide) (cl_8 rfl) rfl rfl rfl hl.1 rfl (Nat.le_of_ble_eq_true rfl) dX11_ask_35 ⟨Nat.le_of_ble_eq_true rfl, Nat.le_of_ble_eq_true rfl⟩ ⟨Nat.le_refl 0, Nat.le_refl 0⟩) (fun H locs I => ?_)
    refine lv_icmp_ge (tgt := 78) X.1 X.2.1 dX11_ask_38 (by decide) (fun c_4 => ?_) (fun c_4 => ?_)
    · skip
      refine lv_iload_n X.1 X.2.1 dX11_ask_78 rfl (lv_at hl 2 rfl) ?_
      have h9 := hE.trans ((if_pos c_4).trans rfl)
      exact r_iret X I (e_i (congrArg Prod.fst h9).symm (congrArg Prod.snd h9).symm rfl) dX11_ask_79
    · skip
      refine lv_aload_n X.1 X.2.1 dX11_ask_41 rfl (lv_at hl 0 rfl) ?_
      refine lv_iload X.1 X.2.1 dX11_ask_42 (lv_at hl 4 rfl) ?_
      refine lv_iload_n X.1 X.2.1 dX11_ask_44 rfl (lv_at hl 1 rfl) ?_
      refine r_ei I (r_runV X I pk_X11_mostAlike (c11_mostAlike l G _ _ _ _) lm_X11_379 (by decide) (cl_11 rfl) rfl rfl rfl hl.1 rfl (Nat.le_of_ble_eq_true rfl) dX11_ask_45 ⟨Nat.le_of_ble_eq_true rfl, Nat.le_of_ble_eq_true rfl⟩ ⟨Nat.le_refl 0, Nat.le_refl 0⟩) (fun H locs I => ?_)
      refine lv_istore (lv' := [(5, .int _), (0, .ref _), (1, .int _), (2, .int _), (3, .int _), (4, .int _)]) X.1 X.2.1 dX11_ask_48 hl (by decide) rfl (fun ls hl => ?_)
      refine lv_iload X.1 X.2.1 dX11_ask_50 (lv_at hl 0 rfl) ?_
      refine lv_if_le (tgt := 72) X.1 X.2.1 dX11_ask_52 (by decide) (fun c_5 => ?_) (fun c_5 => ?_)
      · skip
        refine lv_iinc (v := _ + 1) (lv' := [(4, .int _), (5, .int _), (0, .ref _), (1, .int _), (2, .int _), (3, .int _)]) X.1 X.2.1 dX11_ask_72 hl (k := 5) rfl rfl (by decide) rfl (fun ls hl => ?_)
        refine lv_goto (tgt := 29) X.1 X.2.1 dX11_ask_75 (by decide) ?_
        exact ih _ _ _ _ _ _ _ I (lv_sub hl [2, 3, 4, 5, 0] rfl) (Nat.lt_of_lt_of_le (dec_c (by first | rfl | simp [f8_houses, f11_cell, w_f11_mostAlike, sp_n]) (up_dec c_4)) (Nat.le_of_lt_succ hm)) (hE.trans ((if_neg c_4).trans ((if_pos c_5).trans rfl)))
      · skip
        refine lv_iload_n X.1 X.2.1 dX11_ask_55 rfl (lv_at hl 3 rfl) ?_
        refine lv_iconst (v := (-1)) X.1 X.2.1 dX11_ask_56 (by decide) ?_
        refine lv_icmp_eq (tgt := 66) X.1 X.2.1 dX11_ask_57 (by decide) (fun c_6 => ?_) (fun c_6 => ?_)
        · skip
          refine lv_iload X.1 X.2.1 dX11_ask_66 (lv_at hl 5 rfl) ?_
          refine lv_istore_n (lv' := [(2, .int _), (5, .int _), (0, .ref _), (1, .int _), (3, .int _), (4, .int _)]) X.1 X.2.1 dX11_ask_68 rfl hl (by decide) rfl (fun ls hl => ?_)
          refine lv_iload X.1 X.2.1 dX11_ask_69 (lv_at hl 1 rfl) ?_
          refine lv_istore_n (lv' := [(3, .int _), (2, .int _), (5, .int _), (0, .ref _), (1, .int _), (4, .int _)]) X.1 X.2.1 dX11_ask_71 rfl hl (by decide) rfl (fun ls hl => ?_)
          refine lv_iinc (v := _ + 1) (lv' := [(4, .int _), (3, .int _), (2, .int _), (5, .int _), (0, .ref _), (1, .int _)]) X.1 X.2.1 dX11_ask_72 hl (k := 5) rfl rfl (by decide) rfl (fun ls hl => ?_)
          refine lv_goto (tgt := 29) X.1 X.2.1 dX11_ask_75 (by decide) ?_
          exact ih _ _ _ _ _ _ _ I (lv_sub hl [4, 5, 2, 1, 0] rfl) (Nat.lt_of_lt_of_le (dec_c (by first | rfl | simp [f8_houses, f11_cell, w_f11_mostAlike, sp_n]) (up_dec c_4)) (Nat.le_of_lt_succ hm)) (hE.trans ((if_neg c_4).trans ((if_neg c_5).trans ((if_pos c_6).trans rfl))))
        · skip
          refine lv_iload X.1 X.2.1 dX11_ask_60 (lv_at hl 0 rfl) ?_
          refine lv_iload_n X.1 X.2.1 dX11_ask_62 rfl (lv_at hl 4 rfl) ?_
          refine lv_icmp_ge (tgt := 72) X.1 X.2.1 dX11_ask_63 (by decide) (fun c_7 => ?_) (fun c_7 => ?_)
          · skip
            refine lv_iinc (v := _ + 1) (lv' := [(4, .int _), (5, .int _), (0, .ref _), (1, .int _), (2, .int _), (3, .int _)]) X.1 X.2.1 dX11_ask_72 hl (k := 5) rfl rfl (by decide) rfl (fun ls hl => ?_)
            refine lv_goto (tgt := 29) X.1 X.2.1 dX11_ask_75 (by decide) ?_
            exact ih _ _ _ _ _ _ _ I (lv_sub hl [2, 3, 4, 5, 0] rfl) (Nat.lt_of_lt_of_le (dec_c (by first | rfl | simp [f8_houses, f11_cell, w_f11_mostAlike, sp_n]) (up_dec c_4)) (Nat.le_of_lt_succ hm)) (hE.trans ((if_neg c_4).trans ((if_neg c_5).trans ((if_neg c_6).trans ((if_pos c_7).trans rfl)))))
          · skip
            refine lv_iload X.1 X.2.1 dX11_ask_66 (lv_at hl 5 rfl) ?_
            refine lv_istore_n (lv' := [(2, .int _), (5, .int _), (0, .ref _), (1, .int _), (3, .int _), (4, .int _)]) X.1 X.2.1 dX11_ask_68 rfl hl (by decide) rfl (fun ls hl => ?_)
            refine lv_iload X.1 X.2.1 dX11_ask_69 (lv_at hl 1 rfl) ?_
            refine lv_istore_n (lv' := [(3, .int _), (2, .int _), (5, .int _), (0, .ref _), (1, .int _), (4, .int _)]) X.1 X.2.1 dX11_ask_71 rfl hl (by decide) rfl (fun ls hl => ?_)
            refine lv_iinc (v := _ + 1) (lv' := [(4, .int _), (3, .int _), (2, .int _), (5, .int _), (0, .ref _), (1, .int _)]) X.1 X.2.1 dX11_ask_72 hl (k := 5) rfl rfl (by decide) rfl (fun ls hl => ?_)
            refine lv_goto (tgt := 29) X.1 X.2.1 dX11_ask_75 (by decide) ?_
            exact ih _ _ _ _ _ _ _ I (lv_sub hl [4, 5, 2, 1, 0] rfl) (Nat.lt_of_lt_of_le (dec_c (by first | rfl | simp [f8_houses, f11_cell, w_f11_mostAlike, sp_n]) (up_dec c_4)) (Nat.le_of_lt_succ hm)) (hE.trans ((if_neg c_4).trans ((if_neg c_5).trans ((if_neg c_6).trans ((if_neg c_7).trans rfl)))))
set_option maxHeartbeats 4000000 in
set_option maxRecDepth 100000 in
theorem c11_ask (l : Launch) (G : GT) (σ : SI) (τ : SL) (x1 : Int32) : Mc l yX11_ask cX11_ask 6 (some .int) 9 G [.ref (G.2.1 0), .int x1] σ τ (Qi G (Ei (f11_ask σ x1).1 (f11_ask σ x1).2 τ)) := by
  refine m_start (by decide +kernel) (Nat.le_of_ble_eq_true rfl) rfl (fun p e s m args below meth c ls X I hl => ?_)
  have hl : lv_has ls 6 [(0, .ref (G.2.1 0)), (1, .int x1)] := hl
  obtain ⟨E, hE⟩ : ∃ E, E = (f11_ask σ x1) := ⟨_, rfl⟩
  rw [← hE]
  refine lv_aload_n X.1 X.2.1 dX11_ask_0 rfl (lv_at hl 0 rfl) ?_
  refine g11_3 X I (k := 0) (by decide) rfl lf_X11_35 dX11_ask_1 ?_
  refine r_ei I (r_runV X I pk_X8_isTold (c8_isTold l G (k := 10) ⟨by decide, rfl, rfl, rfl⟩ _ _) lm_X11_158 (by decide) (cl_8 rfl) rfl rfl rfl hl.1 rfl (Nat.le_of_ble_eq_true rfl) dX11_ask_4 ⟨Nat.le_of_ble_eq_true rfl, Nat.le_of_ble_eq_true rfl⟩ ⟨Nat.le_refl 0, Nat.le_refl 0⟩) (fun H locs I => ?_)
  refine lv_if_eq (tgt := 20) X.1 X.2.1 dX11_ask_7 (by decide) (fun c_1 => ?_) (fun c_1 => ?_)
  · skip
    refine lv_iconst (v := (-1)) X.1 X.2.1 dX11_ask_20 (by decide) ?_
    have h9 := hE.trans ((if_neg (b2i_n c_1)).trans rfl)
    exact r_iret X I (e_i (congrArg Prod.fst h9).symm (congrArg Prod.snd h9).symm rfl) dX11_ask_21
  · skip
    refine lv_iload_n X.1 X.2.1 dX11_ask_10 rfl (lv_at hl 1 rfl) ?_
    refine lv_if_lt (tgt := 20) X.1 X.2.1 dX11_ask_11 (by decide) (fun c_2 => ?_) (fun c_2 => ?_)
    · skip
      refine lv_iconst (v := (-1)) X.1 X.2.1 dX11_ask_20 (by decide) ?_
      have h9 := hE.trans ((if_pos (b2i_y c_1)).trans ((if_pos c_2).trans rfl))
      exact r_iret X I (e_i (congrArg Prod.fst h9).symm (congrArg Prod.snd h9).symm rfl) dX11_ask_21
    · skip
      refine lv_iload_n X.1 X.2.1 dX11_ask_14 rfl (lv_at hl 1 rfl) ?_
      refine lv_bipush (v := 99) X.1 X.2.1 dX11_ask_15 (by decide) ?_
      refine lv_icmp_le (tgt := 22) X.1 X.2.1 dX11_ask_17 (by decide) (fun c_3 => ?_) (fun c_3 => ?_)
      · skip
        refine lv_iconst (v := (-1)) X.1 X.2.1 dX11_ask_22 (by decide) ?_
        refine lv_istore_n (lv' := [(2, .int _), (0, .ref _), (1, .int _)]) X.1 X.2.1 dX11_ask_23 rfl hl (by decide) rfl (fun ls hl => ?_)
        refine lv_iconst (v := 0) X.1 X.2.1 dX11_ask_24 (by decide) ?_
        refine lv_istore_n (lv' := [(3, .int _), (2, .int _), (0, .ref _), (1, .int _)]) X.1 X.2.1 dX11_ask_25 rfl hl (by decide) rfl (fun ls hl => ?_)
        refine lv_iconst (v := 0) X.1 X.2.1 dX11_ask_26 (by decide) ?_
        refine lv_istore (lv' := [(4, .int _), (3, .int _), (2, .int _), (0, .ref _), (1, .int _)]) X.1 X.2.1 dX11_ask_27 hl (by decide) rfl (fun ls hl => ?_)
        exact c11_ask_c29 X _ _ _ _ _ _ _ _ _ _ I (lv_sub hl [3, 4, 2, 1, 0] rfl) (Nat.lt_succ_self _) (hE.trans ((if_pos (b2i_y c_1)).trans ((if_neg c_2).trans ((if_pos c_3).trans rfl))))
      · skip
        refine lv_iconst (v := (-1)) X.1 X.2.1 dX11_ask_20 (by decide) ?_
        have h9 := hE.trans ((if_pos (b2i_y c_1)).trans ((if_neg c_2).trans ((if_neg c_3).trans rfl)))
        exact r_iret X I (e_i (congrArg Prod.fst h9).symm (congrArg Prod.snd h9).symm rfl) dX11_ask_21
def f11_arePlaying (σ : SI) (x1 : Int32) (x2 : Int32) : Bool := if (f8_isHouse 10 σ x1) = true then (if (f8_isHouse 10 σ x2) = true then (if x1 = x2 then false else true) else false) else false
set_option maxHeartbeats 4000000 in
set_option maxRecDepth 100000 in
theorem c11_arePlaying (l : Launch) (G : GT) (σ : SI) (τ : SL) (x1 : Int32) (x2 : Int32) : Mc l yX11_arePlaying cX11_arePlaying 3 (some .boolean) 3 G [.ref (G.2.1 0), .int x1, .int x2] σ τ (Qi G (Ei (b2i (f11_arePlaying σ x1 x2)) σ τ)) := by
  refine m_start (by decide +kernel) (Nat.le_of_ble_eq_true rfl) rfl (fun p e s m args below meth c ls X I hl => ?_)
  have hl : lv_has ls 3 [(0, .ref (G.2.1 0)), (1, .int x1), (2, .int x2)] := hl
  obtain ⟨E, hE⟩ : ∃ E, E = (f11_arePlaying σ x1 x2) := ⟨_, rfl⟩
  rw [← hE]
  refine lv_aload_n X.1 X.2.1 dX11_arePlaying_0 rfl (lv_at hl 0 rfl) ?_
  refine g11_3 X I (k := 0) (by decide) rfl lf_X11_35 dX11_arePlaying_1 ?_
  refine lv_iload_n X.1 X.2.1 dX11_arePlaying_4 rfl (lv_at hl 1 rfl) ?_
  refine r_ei I (r_runV X I pk_X8_isHouse (c8_isHouse l G (k := 10) ⟨by decide, rfl, rfl, rfl⟩ _ _ _) lm_X11_173 (by decide) (cl_8 rfl) rfl rfl rfl hl.1 rfl (Nat.le_of_ble_eq_true rfl) dX11_arePlaying_5 ⟨Nat.le_of_ble_eq_true rfl, Nat.le_of_ble_eq_true rfl⟩ ⟨Nat.le_refl 0, Nat.le_refl 0⟩) (fun H locs I => ?_)
  refine lv_if_eq (tgt := 31) X.1 X.2.1 dX11_arePlaying_8 (by decide) (fun c_1 => ?_) (fun c_1 => ?_)
  · skip
    refine lv_iconst (v := 0) X.1 X.2.1 dX11_arePlaying_31 (by decide) ?_
    have h9 := hE.trans ((if_neg (b2i_n c_1)).trans rfl)
    exact r_zret X I rfl (e_i (congrArg b2i (h9)).symm rfl rfl) dX11_arePlaying_32
  · skip
    refine lv_aload_n X.1 X.2.1 dX11_arePlaying_11 rfl (lv_at hl 0 rfl) ?_
    refine g11_3 X I (k := 0) (by decide) rfl lf_X11_35 dX11_arePlaying_12 ?_
    refine lv_iload_n X.1 X.2.1 dX11_arePlaying_15 rfl (lv_at hl 2 rfl) ?_
    refine r_ei I (r_runV X I pk_X8_isHouse (c8_isHouse l G (k := 10) ⟨by decide, rfl, rfl, rfl⟩ _ _ _) lm_X11_173 (by decide) (cl_8 rfl) rfl rfl rfl hl.1 rfl (Nat.le_of_ble_eq_true rfl) dX11_arePlaying_16 ⟨Nat.le_of_ble_eq_true rfl, Nat.le_of_ble_eq_true rfl⟩ ⟨Nat.le_refl 0, Nat.le_refl 0⟩) (fun H locs I => ?_)
    refine lv_if_eq (tgt := 31) X.1 X.2.1 dX11_arePlaying_19 (by decide) (fun c_2 => ?_) (fun c_2 => ?_)
    · skip
      refine lv_iconst (v := 0) X.1 X.2.1 dX11_arePlaying_31 (by decide) ?_
      have h9 := hE.trans ((if_pos (b2i_y c_1)).trans ((if_neg (b2i_n c_2)).trans rfl))
      exact r_zret X I rfl (e_i (congrArg b2i (h9)).symm rfl rfl) dX11_arePlaying_32
    · skip
      refine lv_iload_n X.1 X.2.1 dX11_arePlaying_22 rfl (lv_at hl 1 rfl) ?_
      refine lv_iload_n X.1 X.2.1 dX11_arePlaying_23 rfl (lv_at hl 2 rfl) ?_
      refine lv_icmp_eq (tgt := 31) X.1 X.2.1 dX11_arePlaying_24 (by decide) (fun c_3 => ?_) (fun c_3 => ?_)
      · skip
        refine lv_iconst (v := 0) X.1 X.2.1 dX11_arePlaying_31 (by decide) ?_
        have h9 := hE.trans ((if_pos (b2i_y c_1)).trans ((if_pos (b2i_y c_2)).trans ((if_pos c_3).trans rfl)))
        exact r_zret X I rfl (e_i (congrArg b2i (h9)).symm rfl rfl) dX11_arePlaying_32
      · skip
        refine lv_iconst (v := 1) X.1 X.2.1 dX11_arePlaying_27 (by decide) ?_
        refine lv_goto (tgt := 32) X.1 X.2.1 dX11_arePlaying_28 (by decide) ?_
        have h9 := hE.trans ((if_pos (b2i_y c_1)).trans ((if_pos (b2i_y c_2)).trans ((if_neg c_3).trans rfl)))
        exact r_zret X I rfl (e_i (congrArg b2i (h9)).symm rfl rfl) dX11_arePlaying_32
def f11_gain (x0 : Int32) (x1 : Int32) (x2 : Int32) : Int32 := if x2 ≤ x1 then ((x0 - (0 : Int32)) - (x1 / (2 : Int32))) else ((x0 - (4 : Int32)) - (x1 / (2 : Int32)))
set_option maxHeartbeats 4000000 in
set_option maxRecDepth 100000 in
theorem c11_gain (l : Launch) (G : GT) (σ : SI) (τ : SL) (x0 : Int32) (x1 : Int32) (x2 : Int32) : Mc l yX11_gain cX11_gain 3 (some .int) 0 G [.int x0, .int x1, .int x2] σ τ (Qi G (Ei (f11_gain x0 x1 x2) σ τ)) := by
  refine m_start (by decide +kernel) (Nat.le_of_ble_eq_true rfl) rfl (fun p e s m args below meth c ls X I hl => ?_)
  have hl : lv_has ls 3 [(0, .int x0), (1, .int x1), (2, .int x2)] := hl
  obtain ⟨E, hE⟩ : ∃ E, E = (f11_gain x0 x1 x2) := ⟨_, rfl⟩
  rw [← hE]
  refine lv_iload_n X.1 X.2.1 dX11_gain_0 rfl (lv_at hl 0 rfl) ?_
  refine lv_iload_n X.1 X.2.1 dX11_gain_1 rfl (lv_at hl 2 rfl) ?_
  refine lv_iload_n X.1 X.2.1 dX11_gain_2 rfl (lv_at hl 1 rfl) ?_
  refine lv_icmp_le (tgt := 10) X.1 X.2.1 dX11_gain_3 (by decide) (fun c_1 => ?_) (fun c_1 => ?_)
  · skip
    refine lv_iconst (v := 0) X.1 X.2.1 dX11_gain_10 (by decide) ?_
    refine lv_isub X.1 X.2.1 dX11_gain_11 ?_
    refine lv_iload_n X.1 X.2.1 dX11_gain_12 rfl (lv_at hl 1 rfl) ?_
    refine lv_iconst (v := 2) X.1 X.2.1 dX11_gain_13 (by decide) ?_
    refine lv_idiv X.1 X.2.1 dX11_gain_14 (by decide) ?_
    refine lv_isub X.1 X.2.1 dX11_gain_15 ?_
    have h9 := hE.trans ((if_pos c_1).trans rfl)
    exact r_iret X I (e_i (h9).symm rfl rfl) dX11_gain_16
  · skip
    refine lv_iconst (v := 4) X.1 X.2.1 dX11_gain_6 (by decide) ?_
    refine lv_goto (tgt := 11) X.1 X.2.1 dX11_gain_7 (by decide) ?_
    refine lv_isub X.1 X.2.1 dX11_gain_11 ?_
    refine lv_iload_n X.1 X.2.1 dX11_gain_12 rfl (lv_at hl 1 rfl) ?_
    refine lv_iconst (v := 2) X.1 X.2.1 dX11_gain_13 (by decide) ?_
    refine lv_idiv X.1 X.2.1 dX11_gain_14 (by decide) ?_
    refine lv_isub X.1 X.2.1 dX11_gain_15 ?_
    have h9 := hE.trans ((if_neg c_1).trans rfl)
    exact r_iret X I (e_i (h9).symm rfl rfl) dX11_gain_16
def f11_isClaim (x0 : Int32) : Bool := if x0 < (0 : Int32) then false else (if (10 : Int32) ≤ x0 then false else true)
set_option maxHeartbeats 4000000 in
set_option maxRecDepth 100000 in
theorem c11_isClaim (l : Launch) (G : GT) (σ : SI) (τ : SL) (x0 : Int32) : Mc l yX11_isClaim cX11_isClaim 1 (some .boolean) 0 G [.int x0] σ τ (Qi G (Ei (b2i (f11_isClaim x0)) σ τ)) := by
  refine m_start (by decide +kernel) (Nat.le_of_ble_eq_true rfl) rfl (fun p e s m args below meth c ls X I hl => ?_)
  have hl : lv_has ls 1 [(0, .int x0)] := hl
  obtain ⟨E, hE⟩ : ∃ E, E = (f11_isClaim x0) := ⟨_, rfl⟩
  rw [← hE]
  refine lv_iload_n X.1 X.2.1 dX11_isClaim_0 rfl (lv_at hl 0 rfl) ?_
  refine lv_if_lt (tgt := 14) X.1 X.2.1 dX11_isClaim_1 (by decide) (fun c_1 => ?_) (fun c_1 => ?_)
  · skip
    refine lv_iconst (v := 0) X.1 X.2.1 dX11_isClaim_14 (by decide) ?_
    have h9 := hE.trans ((if_pos c_1).trans rfl)
    exact r_zret X I rfl (e_i (congrArg b2i (h9)).symm rfl rfl) dX11_isClaim_15
  · skip
    refine lv_iload_n X.1 X.2.1 dX11_isClaim_4 rfl (lv_at hl 0 rfl) ?_
    refine lv_bipush (v := 10) X.1 X.2.1 dX11_isClaim_5 (by decide) ?_
    refine lv_icmp_ge (tgt := 14) X.1 X.2.1 dX11_isClaim_7 (by decide) (fun c_2 => ?_) (fun c_2 => ?_)
    · skip
      refine lv_iconst (v := 0) X.1 X.2.1 dX11_isClaim_14 (by decide) ?_
      have h9 := hE.trans ((if_neg c_1).trans ((if_pos c_2).trans rfl))
      exact r_zret X I rfl (e_i (congrArg b2i (h9)).symm rfl rfl) dX11_isClaim_15
    · skip
      refine lv_iconst (v := 1) X.1 X.2.1 dX11_isClaim_10 (by decide) ?_
      refine lv_goto (tgt := 15) X.1 X.2.1 dX11_isClaim_11 (by decide) ?_
      have h9 := hE.trans ((if_neg c_1).trans ((if_neg c_2).trans rfl))
      exact r_zret X I rfl (e_i (congrArg b2i (h9)).symm rfl rfl) dX11_isClaim_15
def f11_standsClaimed (σ : SI) (x1 : Int32) (x2 : Int32) : Int32 × SI := let r0 := (f11_standsNow σ x1 (if ((f0_grievanceOf 24 σ x1) + x2) < (30 : Int32) then ((f0_grievanceOf 24 σ x1) + x2) else (30 : Int32))); (r0.1, r0.2)
theorem w_f11_standsClaimed (σ : SI) (x1 : Int32) (x2 : Int32) (a : Nat) (h0 : a ≠ 13) (h1 : a ≠ 15) : (f11_standsClaimed σ x1 x2).2 a = σ a := by
  unfold f11_standsClaimed
  (repeat' split) <;> (first | rfl | (simp only [sp_n, su_n, ne_eq, not_false_eq_true, h0, h1, w_f11_standsNow]; done) | (simp [sp_n, su_n, ne_eq, not_false_eq_true, h0, h1, w_f11_standsNow]; done))
set_option maxHeartbeats 4000000 in
set_option maxRecDepth 100000 in
theorem c11_standsClaimed (l : Launch) (G : GT) (σ : SI) (τ : SL) (x1 : Int32) (x2 : Int32) : Mc l yX11_standsClaimed cX11_standsClaimed 3 (some .int) 8 G [.ref (G.2.1 0), .int x1, .int x2] σ τ (Qi G (Ei (f11_standsClaimed σ x1 x2).1 (f11_standsClaimed σ x1 x2).2 τ)) := by
  refine m_start (by decide +kernel) (Nat.le_of_ble_eq_true rfl) rfl (fun p e s m args below meth c ls X I hl => ?_)
  have hl : lv_has ls 3 [(0, .ref (G.2.1 0)), (1, .int x1), (2, .int x2)] := hl
  obtain ⟨E, hE⟩ : ∃ E, E = (f11_standsClaimed σ x1 x2) := ⟨_, rfl⟩
  rw [← hE]
  refine lv_aload_n X.1 X.2.1 dX11_standsClaimed_0 rfl (lv_at hl 0 rfl) ?_
  refine lv_iload_n X.1 X.2.1 dX11_standsClaimed_1 rfl (lv_at hl 1 rfl) ?_
  refine lv_bipush (v := 30) X.1 X.2.1 dX11_standsClaimed_2 (by decide) ?_
  refine lv_aload_n X.1 X.2.1 dX11_standsClaimed_4 rfl (lv_at hl 0 rfl) ?_
  refine g11_5 X I (k := 0) (by decide) rfl lf_X11_49 dX11_standsClaimed_5 ?_
  refine lv_iload_n X.1 X.2.1 dX11_standsClaimed_8 rfl (lv_at hl 1 rfl) ?_
  refine r_ei I (r_runV X I pk_X0_grievanceOf (c0_grievanceOf l G (k := 24) ⟨by decide, rfl, rfl⟩ _ _ _) lm_X11_185 (by decide) (cl_0 rfl) rfl rfl rfl hl.1 rfl (Nat.le_of_ble_eq_true rfl) dX11_standsClaimed_9 ⟨Nat.le_of_ble_eq_true rfl, Nat.le_of_ble_eq_true rfl⟩ ⟨Nat.le_refl 0, Nat.le_refl 0⟩) (fun H locs I => ?_)
  refine lv_iload_n X.1 X.2.1 dX11_standsClaimed_12 rfl (lv_at hl 2 rfl) ?_
  refine lv_iadd X.1 X.2.1 dX11_standsClaimed_13 ?_
  refine r_mmin X hl.1 lm_X11_286 ls_J9_min_7cf53 ln_J9 lc_J9_min_7cf53 (Nat.le_of_ble_eq_true rfl) (Nat.le_of_ble_eq_true rfl) (Nat.le_refl 0) (Nat.le_refl 0) dX11_standsClaimed_14 ?_
  refine r_ei I (r_runV X I pk_X11_standsNow (c11_standsNow l G _ _ _ _) lm_X11_210 (by decide) (cl_11 rfl) rfl rfl rfl hl.1 rfl (Nat.le_of_ble_eq_true rfl) dX11_standsClaimed_17 ⟨Nat.le_of_ble_eq_true rfl, Nat.le_of_ble_eq_true rfl⟩ ⟨Nat.le_refl 0, Nat.le_refl 0⟩) (fun H locs I => ?_)
  have h9 := hE
  exact r_iret X I (e_i (congrArg Prod.fst h9).symm (congrArg Prod.snd h9).symm rfl) dX11_standsClaimed_20
def f11_game (σ : SI) (x1 : Int32) (x2 : Int32) (x3 : Int32) (x4 : Int32) (x5 : Int32) : Int32 × SI := if (f11_arePlaying σ x1 x2) = true then (if (f11_isClaim x3) = true then (if (f11_isClaim x4) = true then (if x5 < (0 : Int32) then ((-1000000 : Int32), σ) else (if x5 ≤ (1 : Int32) then (if x5 = (0 : Int32) then (let r1 := (f11_standsClaimed σ x1 x3); ((f11_gain r1.1 x3 x4), r1.2)) else (let r0 := (f11_standsClaimed σ x2 x4); ((f11_gain r0.1 x4 x3), r0.2))) else ((-1000000 : Int32), σ))) else ((-1000000 : Int32), σ)) else ((-1000000 : Int32), σ)) else ((-1000000 : Int32), σ)
theorem w_f11_game (σ : SI) (x1 : Int32) (x2 : Int32) (x3 : Int32) (x4 : Int32) (x5 : Int32) (a : Nat) (h0 : a ≠ 13) (h1 : a ≠ 15) : (f11_game σ x1 x2 x3 x4 x5).2 a = σ a := by
  unfold f11_game
  (repeat' split) <;> (first | rfl | (simp only [sp_n, su_n, ne_eq, not_false_eq_true, h0, h1, w_f11_standsClaimed]; done) | (simp [sp_n, su_n, ne_eq, not_false_eq_true, h0, h1, w_f11_standsClaimed]; done))
set_option maxHeartbeats 4000000 in
set_option maxRecDepth 100000 in
theorem c11_game (l : Launch) (G : GT) (σ : SI) (τ : SL) (x1 : Int32) (x2 : Int32) (x3 : Int32) (x4 : Int32) (x5 : Int32) : Mc l yX11_game cX11_game 6 (some .int) 9 G [.ref (G.2.1 0), .int x1, .int x2, .int x3, .int x4, .int x5] σ τ (Qi G (Ei (f11_game σ x1 x2 x3 x4 x5).1 (f11_game σ x1 x2 x3 x4 x5).2 τ)) := by
  refine m_start (by decide +kernel) (Nat.le_of_ble_eq_true rfl) rfl (fun p e s m args below meth c ls X I hl => ?_)
  have hl : lv_has ls 6 [(0, .ref (G.2.1 0)), (1, .int x1), (2, .int x2), (3, .int x3), (4, .int x4), (5, .int x5)] := hl
  obtain ⟨E, hE⟩ : ∃ E, E = (f11_game σ x1 x2 x3 x4 x5) := ⟨_, rfl⟩
  rw [← hE]
  refine lv_aload_n X.1 X.2.1 dX11_game_0 rfl (lv_at hl 0 rfl) ?_
  refine lv_iload_n X.1 X.2.1 dX11_game_1 rfl (lv_at hl 1 rfl) ?_
  refine lv_iload_n X.1 X.2.1 dX11_game_2 rfl (lv_at hl 2 rfl) ?_
  refine r_ei I (r_runV X I pk_X11_arePlaying (c11_arePlaying l G _ _ _ _) lm_X11_385 (by decide) (cl_11 rfl) rfl rfl rfl hl.1 rfl (Nat.le_of_ble_eq_true rfl) dX11_game_3 ⟨Nat.le_of_ble_eq_true rfl, Nat.le_of_ble_eq_true rfl⟩ ⟨Nat.le_refl 0, Nat.le_refl 0⟩) (fun H locs I => ?_)
  refine lv_if_eq (tgt := 35) X.1 X.2.1 dX11_game_6 (by decide) (fun c_1 => ?_) (fun c_1 => ?_)
  · skip
    refine lv_ldcw X.1 X.2.1 (v := (-1000000)) X.2.2.2.2.1 (X.2.2.2.1 _ lq_X11_391) dX11_game_35 ?_
    have h9 := hE.trans ((if_neg (b2i_n c_1)).trans rfl)
    exact r_iret X I (e_i (congrArg Prod.fst h9).symm (congrArg Prod.snd h9).symm rfl) dX11_game_38
  · skip
    refine lv_iload_n X.1 X.2.1 dX11_game_9 rfl (lv_at hl 3 rfl) ?_
    refine r_ei I (r_runS X I pk_X11_isClaim (c11_isClaim l G _ _ _) lm_X11_388 rfl hl.1 rfl (Nat.le_of_ble_eq_true rfl) dX11_game_10 ⟨Nat.le_of_ble_eq_true rfl, Nat.le_of_ble_eq_true rfl⟩ ⟨Nat.le_refl 0, Nat.le_refl 0⟩) (fun H locs I => ?_)
    refine lv_if_eq (tgt := 35) X.1 X.2.1 dX11_game_13 (by decide) (fun c_2 => ?_) (fun c_2 => ?_)
    · skip
      refine lv_ldcw X.1 X.2.1 (v := (-1000000)) X.2.2.2.2.1 (X.2.2.2.1 _ lq_X11_391) dX11_game_35 ?_
      have h9 := hE.trans ((if_pos (b2i_y c_1)).trans ((if_neg (b2i_n c_2)).trans rfl))
      exact r_iret X I (e_i (congrArg Prod.fst h9).symm (congrArg Prod.snd h9).symm rfl) dX11_game_38
    · skip
      refine lv_iload X.1 X.2.1 dX11_game_16 (lv_at hl 4 rfl) ?_
      refine r_ei I (r_runS X I pk_X11_isClaim (c11_isClaim l G _ _ _) lm_X11_388 rfl hl.1 rfl (Nat.le_of_ble_eq_true rfl) dX11_game_18 ⟨Nat.le_of_ble_eq_true rfl, Nat.le_of_ble_eq_true rfl⟩ ⟨Nat.le_refl 0, Nat.le_refl 0⟩) (fun H locs I => ?_)
      refine lv_if_eq (tgt := 35) X.1 X.2.1 dX11_game_21 (by decide) (fun c_3 => ?_) (fun c_3 => ?_)
      · skip
        refine lv_ldcw X.1 X.2.1 (v := (-1000000)) X.2.2.2.2.1 (X.2.2.2.1 _ lq_X11_391) dX11_game_35 ?_
        have h9 := hE.trans ((if_pos (b2i_y c_1)).trans ((if_pos (b2i_y c_2)).trans ((if_neg (b2i_n c_3)).trans rfl)))
        exact r_iret X I (e_i (congrArg Prod.fst h9).symm (congrArg Prod.snd h9).symm rfl) dX11_game_38
      · skip
        refine lv_iload X.1 X.2.1 dX11_game_24 (lv_at hl 5 rfl) ?_
        refine lv_if_lt (tgt := 35) X.1 X.2.1 dX11_game_26 (by decide) (fun c_4 => ?_) (fun c_4 => ?_)
        · skip
          refine lv_ldcw X.1 X.2.1 (v := (-1000000)) X.2.2.2.2.1 (X.2.2.2.1 _ lq_X11_391) dX11_game_35 ?_
          have h9 := hE.trans ((if_pos (b2i_y c_1)).trans ((if_pos (b2i_y c_2)).trans ((if_pos (b2i_y c_3)).trans ((if_pos c_4).trans rfl))))
          exact r_iret X I (e_i (congrArg Prod.fst h9).symm (congrArg Prod.snd h9).symm rfl) dX11_game_38
        · skip
          refine lv_iload X.1 X.2.1 dX11_game_29 (lv_at hl 5 rfl) ?_
          refine lv_iconst (v := 1) X.1 X.2.1 dX11_game_31 (by decide) ?_
          refine lv_icmp_le (tgt := 39) X.1 X.2.1 dX11_game_32 (by decide) (fun c_5 => ?_) (fun c_5 => ?_)
          · skip
            refine lv_iload X.1 X.2.1 dX11_game_39 (lv_at hl 5 rfl) ?_
            refine lv_if_ne (tgt := 59) X.1 X.2.1 dX11_game_41 (by decide) (fun c_6 => ?_) (fun c_6 => ?_)
            · skip
              refine lv_aload_n X.1 X.2.1 dX11_game_59 rfl (lv_at hl 0 rfl) ?_
              refine lv_iload_n X.1 X.2.1 dX11_game_60 rfl (lv_at hl 2 rfl) ?_
              refine lv_iload X.1 X.2.1 dX11_game_61 (lv_at hl 4 rfl) ?_
              refine r_ei I (r_runV X I pk_X11_standsClaimed (c11_standsClaimed l G _ _ _ _) lm_X11_392 (by decide) (cl_11 rfl) rfl rfl rfl hl.1 rfl (Nat.le_of_ble_eq_true rfl) dX11_game_63 ⟨Nat.le_of_ble_eq_true rfl, Nat.le_of_ble_eq_true rfl⟩ ⟨Nat.le_refl 0, Nat.le_refl 0⟩) (fun H locs I => ?_)
              refine lv_iload X.1 X.2.1 dX11_game_66 (lv_at hl 4 rfl) ?_
              refine lv_iload_n X.1 X.2.1 dX11_game_68 rfl (lv_at hl 3 rfl) ?_
              refine r_ei I (r_runS X I pk_X11_gain (c11_gain l G _ _ _ _ _) lm_X11_395 rfl hl.1 rfl (Nat.le_of_ble_eq_true rfl) dX11_game_69 ⟨Nat.le_of_ble_eq_true rfl, Nat.le_of_ble_eq_true rfl⟩ ⟨Nat.le_refl 0, Nat.le_refl 0⟩) (fun H locs I => ?_)
              have h9 := hE.trans ((if_pos (b2i_y c_1)).trans ((if_pos (b2i_y c_2)).trans ((if_pos (b2i_y c_3)).trans ((if_neg c_4).trans ((if_pos c_5).trans ((if_neg c_6).trans rfl))))))
              exact r_iret X I (e_i (congrArg Prod.fst h9).symm (congrArg Prod.snd h9).symm rfl) dX11_game_72
            · skip
              refine lv_aload_n X.1 X.2.1 dX11_game_44 rfl (lv_at hl 0 rfl) ?_
              refine lv_iload_n X.1 X.2.1 dX11_game_45 rfl (lv_at hl 1 rfl) ?_
              refine lv_iload_n X.1 X.2.1 dX11_game_46 rfl (lv_at hl 3 rfl) ?_
              refine r_ei I (r_runV X I pk_X11_standsClaimed (c11_standsClaimed l G _ _ _ _) lm_X11_392 (by decide) (cl_11 rfl) rfl rfl rfl hl.1 rfl (Nat.le_of_ble_eq_true rfl) dX11_game_47 ⟨Nat.le_of_ble_eq_true rfl, Nat.le_of_ble_eq_true rfl⟩ ⟨Nat.le_refl 0, Nat.le_refl 0⟩) (fun H locs I => ?_)
              refine lv_iload_n X.1 X.2.1 dX11_game_50 rfl (lv_at hl 3 rfl) ?_
              refine lv_iload X.1 X.2.1 dX11_game_51 (lv_at hl 4 rfl) ?_
              refine r_ei I (r_runS X I pk_X11_gain (c11_gain l G _ _ _ _ _) lm_X11_395 rfl hl.1 rfl (Nat.le_of_ble_eq_true rfl) dX11_game_53 ⟨Nat.le_of_ble_eq_true rfl, Nat.le_of_ble_eq_true rfl⟩ ⟨Nat.le_refl 0, Nat.le_refl 0⟩) (fun H locs I => ?_)
              refine lv_goto (tgt := 72) X.1 X.2.1 dX11_game_56 (by decide) ?_
              have h9 := hE.trans ((if_pos (b2i_y c_1)).trans ((if_pos (b2i_y c_2)).trans ((if_pos (b2i_y c_3)).trans ((if_neg c_4).trans ((if_pos c_5).trans ((if_pos c_6).trans rfl))))))
              exact r_iret X I (e_i (congrArg Prod.fst h9).symm (congrArg Prod.snd h9).symm rfl) dX11_game_72
          · skip
            refine lv_ldcw X.1 X.2.1 (v := (-1000000)) X.2.2.2.2.1 (X.2.2.2.1 _ lq_X11_391) dX11_game_35 ?_
            have h9 := hE.trans ((if_pos (b2i_y c_1)).trans ((if_pos (b2i_y c_2)).trans ((if_pos (b2i_y c_3)).trans ((if_neg c_4).trans ((if_neg c_5).trans rfl)))))
            exact r_iret X I (e_i (congrArg Prod.fst h9).symm (congrArg Prod.snd h9).symm rfl) dX11_game_38
def f11_isBest_c14 (k : Nat) (n : Nat) (σ : SI) (x1 : Int32) (x2 : Int32) (x3 : Int32) : Nat → Int32 → Bool
  | 0, _ => false
  | fu + 1, v4 => if (10 : Int32) ≤ v4 then true else (if (f11_gain (f11_cell k n σ v4) v4 x2) ≤ x3 then (f11_isBest_c14 k n σ x1 x2 x3 fu (v4 + 1)) else false)
def f11_isBest (k : Nat) (n : Nat) (σ : SI) (x1 : Int32) (x2 : Int32) : Bool := (f11_isBest_c14 k n σ x1 x2 (f11_gain (f11_cell k n σ x1) x1 x2) ((Int32.toInt (10 : Int32) - Int32.toInt (0 : Int32)).toNat + 1) (0 : Int32))
set_option maxHeartbeats 4000000 in
set_option maxRecDepth 100000 in
theorem c11_isBest_c14 {l : Launch} {p : Program} {e : Env} {s : State} {m : MethodId} {args : Array Value} {below : List Frame} {meth : Method} {c : Code} {G : GT} (X : CX p s m args meth c cX11_isBest RX11 5 (some .boolean) G) {k n : Nat} (hk : k < NW) (hd : kd k = 100 + n) (hn : n < 2 ^ 31) {E : Bool} (σ : SI) (τ : SL) (x1 : Int32) (x2 : Int32) (x3 : Int32) : ∀ (fu : Nat) (v4 : Int32) (H : Heap) (locs : List Loc) (ls : Array Slot), IX G s H locs σ τ → lv_has ls 5 [(0, .ref (G.2.1 k)), (1, .int x1), (2, .int x2), (3, .int x3), (4, .int v4)] → (Int32.toInt (10 : Int32) - Int32.toInt v4).toNat < fu → E = (f11_isBest_c14 k n σ x1 x2 x3 fu v4) → W p l e (rmN 1) s m args below meth c H locs 0 0 (MQ below ((Qi G (Ei (b2i E) σ τ)) s.heap.size) args s 0 0 (AW G s.heap.size)) (F0 m 14 ls []) := by
  intro fu
  induction fu with
  | zero =>
    intro v4 H locs ls I hl  hm hE
    exact absurd hm (Nat.not_lt_zero _)
  | succ fu ih =>
    intro v4 H locs ls I hl  hm hE
    refine lv_iload X.1 X.2.1 dX11_isBest_14 (lv_at hl 4 rfl) ?_
    refine lv_bipush (v := 10) X.1 X.2.1 dX11_isBest_16 (by decide) ?_
    refine lv_icmp_ge (tgt := 45) X.1 X.2.1 dX11_isBest_18 (by decide) (fun c_1 => ?_) (fun c_1 => ?_)
    · skip
      refine lv_iconst (v := 1) X.1 X.2.1 dX11_isBest_45 (by decide) ?_
      have h9 := hE.trans ((if_pos c_1).trans rfl)
      exact r_zret X I rfl (e_i (congrArg b2i (h9)).symm rfl rfl) dX11_isBest_46
    · skip
      refine lv_aload_n X.1 X.2.1 dX11_isBest_21 rfl (lv_at hl 0 rfl) ?_
      refine lv_iload X.1 X.2.1 dX11_isBest_22 (lv_at hl 4 rfl) ?_
      refine r_ei I (r_runS X I pk_X11_cell (c11_cell l G (k := k) (n := n) hk hd hn _ _ _) lm_X11_406 rfl hl.1 rfl (Nat.le_of_ble_eq_true rfl) dX11_isBest_24 ⟨Nat.le_of_ble_eq_true rfl, Nat.le_of_ble_eq_true rfl⟩ ⟨Nat.le_refl 0, Nat.le_refl 0⟩) (fun H locs I => ?_)
      refine lv_iload X.1 X.2.1 dX11_isBest_27 (lv_at hl 4 rfl) ?_
      refine lv_iload_n X.1 X.2.1 dX11_isBest_29 rfl (lv_at hl 2 rfl) ?_
      refine r_ei I (r_runS X I pk_X11_gain (c11_gain l G _ _ _ _ _) lm_X11_395 rfl hl.1 rfl (Nat.le_of_ble_eq_true rfl) dX11_isBest_30 ⟨Nat.le_of_ble_eq_true rfl, Nat.le_of_ble_eq_true rfl⟩ ⟨Nat.le_refl 0, Nat.le_refl 0⟩) (fun H locs I => ?_)
      refine lv_iload_n X.1 X.2.1 dX11_isBest_33 rfl (lv_at hl 3 rfl) ?_
      refine lv_icmp_le (tgt := 39) X.1 X.2.1 dX11_isBest_34 (by decide) (fun c_2 => ?_) (fun c_2 => ?_)
      · skip
        refine lv_iinc (v := _ + 1) (lv' := [(4, .int _), (0, .ref _), (1, .int _), (2, .int _), (3, .int _)]) X.1 X.2.1 dX11_isBest_39 hl (k := 4) rfl rfl (by decide) rfl (fun ls hl => ?_)
        refine lv_goto (tgt := 14) X.1 X.2.1 dX11_isBest_42 (by decide) ?_
        exact ih _ _ _ _ I (lv_sub hl [1, 2, 3, 4, 0] rfl) (Nat.lt_of_lt_of_le (up_dec c_1) (Nat.le_of_lt_succ hm)) (hE.trans ((if_neg c_1).trans ((if_pos c_2).trans rfl)))
      · skip
        refine lv_iconst (v := 0) X.1 X.2.1 dX11_isBest_37 (by decide) ?_
        have h9 := hE.trans ((if_neg c_1).trans ((if_neg c_2).trans rfl))
        exact r_zret X I rfl (e_i (congrArg b2i (h9)).symm rfl rfl) dX11_isBest_38
set_option maxHeartbeats 4000000 in
set_option maxRecDepth 100000 in
theorem c11_isBest (l : Launch) (G : GT) {k n : Nat} (hk : k < NW) (hd : kd k = 100 + n) (hn : n < 2 ^ 31) (σ : SI) (τ : SL) (x1 : Int32) (x2 : Int32) : Mc l yX11_isBest cX11_isBest 5 (some .boolean) 1 G [.ref (G.2.1 k), .int x1, .int x2] σ τ (Qi G (Ei (b2i (f11_isBest k n σ x1 x2)) σ τ)) := by
  refine m_start (by decide +kernel) (Nat.le_of_ble_eq_true rfl) rfl (fun p e s m args below meth c ls X I hl => ?_)
  have hl : lv_has ls 5 [(0, .ref (G.2.1 k)), (1, .int x1), (2, .int x2)] := hl
  obtain ⟨E, hE⟩ : ∃ E, E = (f11_isBest k n σ x1 x2) := ⟨_, rfl⟩
  rw [← hE]
  refine lv_aload_n X.1 X.2.1 dX11_isBest_0 rfl (lv_at hl 0 rfl) ?_
  refine lv_iload_n X.1 X.2.1 dX11_isBest_1 rfl (lv_at hl 1 rfl) ?_
  refine r_ei I (r_runS X I pk_X11_cell (c11_cell l G (k := k) (n := n) hk hd hn _ _ _) lm_X11_406 rfl hl.1 rfl (Nat.le_of_ble_eq_true rfl) dX11_isBest_2 ⟨Nat.le_of_ble_eq_true rfl, Nat.le_of_ble_eq_true rfl⟩ ⟨Nat.le_refl 0, Nat.le_refl 0⟩) (fun H locs I => ?_)
  refine lv_iload_n X.1 X.2.1 dX11_isBest_5 rfl (lv_at hl 1 rfl) ?_
  refine lv_iload_n X.1 X.2.1 dX11_isBest_6 rfl (lv_at hl 2 rfl) ?_
  refine r_ei I (r_runS X I pk_X11_gain (c11_gain l G _ _ _ _ _) lm_X11_395 rfl hl.1 rfl (Nat.le_of_ble_eq_true rfl) dX11_isBest_7 ⟨Nat.le_of_ble_eq_true rfl, Nat.le_of_ble_eq_true rfl⟩ ⟨Nat.le_refl 0, Nat.le_refl 0⟩) (fun H locs I => ?_)
  refine lv_istore_n (lv' := [(3, .int _), (0, .ref _), (1, .int _), (2, .int _)]) X.1 X.2.1 dX11_isBest_10 rfl hl (by decide) rfl (fun ls hl => ?_)
  refine lv_iconst (v := 0) X.1 X.2.1 dX11_isBest_11 (by decide) ?_
  refine lv_istore (lv' := [(4, .int _), (3, .int _), (0, .ref _), (1, .int _), (2, .int _)]) X.1 X.2.1 dX11_isBest_12 hl (by decide) rfl (fun ls hl => ?_)
  exact c11_isBest_c14 X hk hd hn _ _ _ _ _ _ _ _ _ _ I (lv_sub hl [2, 3, 4, 1, 0] rfl) (Nat.lt_succ_self _) (hE.trans (rfl))
def f11_rests_c65 (σ : SI) (x1 : Int32) (x2 : Int32) (x3 : Int32) (K : Int32 → Int32 → (Int32 × SI)) : Nat → Int32 → Int32 → (Int32 × SI)
  | 0, v4, v5 => (K v4 v5)
  | fu + 1, v4, v5 => if (100 : Int32) ≤ v5 then (K v4 v5) else (if (f11_isBest 41 10 σ (v5 / (10 : Int32)) (v5 - v5 / (10 : Int32) * (10 : Int32))) = true then (if (f11_isBest 42 10 σ (v5 - v5 / (10 : Int32) * (10 : Int32)) (v5 / (10 : Int32))) = true then (if v4 = x3 then (v5, σ) else (f11_rests_c65 σ x1 x2 x3 K fu (v4 + 1) (v5 + 1))) else (f11_rests_c65 σ x1 x2 x3 K fu v4 (v5 + 1))) else (f11_rests_c65 σ x1 x2 x3 K fu v4 (v5 + 1)))
def f11_rests_c14 (x1 : Int32) (x2 : Int32) (x3 : Int32) : Nat → Int32 → SI → (Int32 × SI)
  | 0, _, σ => (0, σ)
  | fu + 1, v4, σ => if (10 : Int32) ≤ v4 then (f11_rests_c65 σ x1 x2 x3 (fun (y1_4 : Int32) (y1_5 : Int32) => if x3 = (-1 : Int32) then (y1_4, σ) else ((-1 : Int32), σ)) ((Int32.toInt (100 : Int32) - Int32.toInt (0 : Int32)).toNat + 1) (0 : Int32) (0 : Int32)) else (let r0 := (f11_standsClaimed σ x1 v4); let s1 := (f11_setCell 41 10 r0.2 v4 r0.1); let r2 := (f11_standsClaimed s1 x2 v4); let s3 := (f11_setCell 42 10 r2.2 v4 r2.1); (f11_rests_c14 x1 x2 x3 fu (v4 + 1) s3))
def f11_rests (σ : SI) (x1 : Int32) (x2 : Int32) (x3 : Int32) : Int32 × SI := if (f11_arePlaying σ x1 x2) = true then (f11_rests_c14 x1 x2 x3 ((Int32.toInt (10 : Int32) - Int32.toInt (0 : Int32)).toNat + 1) (0 : Int32) σ) else ((-1 : Int32), σ)
theorem w_f11_rests_c14 (x1 : Int32) (x2 : Int32) (x3 : Int32) (a : Nat) (h0 : a ≠ 13) (h1 : a ≠ 15) (h2 : a ≠ 41) (h3 : a ≠ 42) : ∀ (fu : Nat) (v4 : Int32) (σ : SI), (f11_rests_c14 x1 x2 x3 fu v4 σ).2 a = σ a := by
  intro fu
  induction fu with
  | zero => intros; rfl
  | succ fu ih =>
    intro v4 σ
    unfold f11_rests_c14
    (repeat' split) <;> (first | rfl | (simp only [sp_n, su_n, ne_eq, not_false_eq_true, h0, h1, h2, h3, w_f11_setCell, w_f11_standsClaimed, ih]; done) | (simp [sp_n, su_n, ne_eq, not_false_eq_true, h0, h1, h2, h3, w_f11_setCell, w_f11_standsClaimed, ih]; done))
theorem w_f11_rests (σ : SI) (x1 : Int32) (x2 : Int32) (x3 : Int32) (a : Nat) (h0 : a ≠ 13) (h1 : a ≠ 15) (h2 : a ≠ 41) (h3 : a ≠ 42) : (f11_rests σ x1 x2 x3).2 a = σ a := by
  unfold f11_rests
  (repeat' split) <;> (first | rfl | (simp only [sp_n, su_n, ne_eq, not_false_eq_true, h0, h1, h2, h3, w_f11_setCell, w_f11_standsClaimed, w_f11_rests_c14]; done) | (simp [sp_n, su_n, ne_eq, not_false_eq_true, h0, h1, h2, h3, w_f11_setCell, w_f11_standsClaimed, w_f11_rests_c14]; done))
set_option maxHeartbeats 4000000 in
set_option maxRecDepth 100000 in
theorem c11_rests_c65 {l : Launch} {p : Program} {e : Env} {s : State} {m : MethodId} {args : Array Value} {below : List Frame} {meth : Method} {c : Code} {G : GT} (X : CX p s m args meth c cX11_rests RX11 6 (some .int) G) {E : Int32 × SI} (σ : SI) (τ : SL) (x1 : Int32) (x2 : Int32) (x3 : Int32) {K : Int32 → Int32 → (Int32 × SI)} (hK : ∀ (v4 : Int32) (v5 : Int32) (H : Heap) (locs : List Loc) (ls : Array Slot), IX G s H locs σ τ → lv_has ls 6 [(0, .ref (G.2.1 0)), (1, .int x1), (2, .int x2), (3, .int x3), (4, .int v4), (5, .int v5)] → E = K v4 v5 → W p l e (rmN 9) s m args below meth c H locs 0 0 (MQ below ((Qi G (Ei E.1 E.2 τ)) s.heap.size) args s 0 0 (AW G s.heap.size)) (F0 m 130 ls [])) : ∀ (fu : Nat) (v4 : Int32) (v5 : Int32) (H : Heap) (locs : List Loc) (ls : Array Slot), IX G s H locs σ τ → lv_has ls 6 [(0, .ref (G.2.1 0)), (1, .int x1), (2, .int x2), (3, .int x3), (4, .int v4), (5, .int v5)] → (Int32.toInt (100 : Int32) - Int32.toInt v5).toNat < fu → E = (f11_rests_c65 σ x1 x2 x3 K fu v4 v5) → W p l e (rmN 9) s m args below meth c H locs 0 0 (MQ below ((Qi G (Ei E.1 E.2 τ)) s.heap.size) args s 0 0 (AW G s.heap.size)) (F0 m 65 ls []) := by
  intro fu
  induction fu with
  | zero =>
    intro v4 v5 H locs ls I hl  hm hE
    exact absurd hm (Nat.not_lt_zero _)
  | succ fu ih =>
    intro v4 v5 H locs ls I hl  hm hE
    refine lv_iload X.1 X.2.1 dX11_rests_65 (lv_at hl 5 rfl) ?_
    refine lv_bipush (v := 100) X.1 X.2.1 dX11_rests_67 (by decide) ?_
    refine lv_icmp_ge (tgt := 130) X.1 X.2.1 dX11_rests_69 (by decide) (fun c_3 => ?_) (fun c_3 => ?_)
    · skip
      exact hK _ _ _ _ _ I (lv_sub hl [0, 1, 2, 3, 4, 5] rfl) (hE.trans ((if_pos c_3).trans rfl))
    · skip
      refine lv_aload_n X.1 X.2.1 dX11_rests_72 rfl (lv_at hl 0 rfl) ?_
      refine g11_12 X I (k := 0) (by decide) rfl lf_X11_90 dX11_rests_73 ?_
      refine lv_iload X.1 X.2.1 dX11_rests_76 (lv_at hl 5 rfl) ?_
      refine lv_bipush (v := 10) X.1 X.2.1 dX11_rests_78 (by decide) ?_
      refine lv_idiv X.1 X.2.1 dX11_rests_80 (by decide) ?_
      refine lv_iload X.1 X.2.1 dX11_rests_81 (lv_at hl 5 rfl) ?_
      refine lv_bipush (v := 10) X.1 X.2.1 dX11_rests_83 (by decide) ?_
      refine lv_irem X.1 X.2.1 dX11_rests_85 (by decide) ?_
      refine r_ei I (r_runS X I pk_X11_isBest (c11_isBest l G (k := 41) (n := 10) (by decide) rfl (by decide) _ _ _ _) lm_X11_402 rfl hl.1 rfl (Nat.le_of_ble_eq_true rfl) dX11_rests_86 ⟨Nat.le_of_ble_eq_true rfl, Nat.le_of_ble_eq_true rfl⟩ ⟨Nat.le_refl 0, Nat.le_refl 0⟩) (fun H locs I => ?_)
      refine lv_if_eq (tgt := 124) X.1 X.2.1 dX11_rests_89 (by decide) (fun c_4 => ?_) (fun c_4 => ?_)
      · skip
        refine lv_iinc (v := _ + 1) (lv' := [(5, .int _), (0, .ref _), (1, .int _), (2, .int _), (3, .int _), (4, .int _)]) X.1 X.2.1 dX11_rests_124 hl (k := 5) rfl rfl (by decide) rfl (fun ls hl => ?_)
        refine lv_goto (tgt := 65) X.1 X.2.1 dX11_rests_127 (by decide) ?_
        exact ih _ _ _ _ _ I (lv_sub hl [1, 2, 3, 4, 5, 0] rfl) (Nat.lt_of_lt_of_le (up_dec c_3) (Nat.le_of_lt_succ hm)) (hE.trans ((if_neg c_3).trans ((if_neg (b2i_n c_4)).trans rfl)))
      · skip
        refine lv_aload_n X.1 X.2.1 dX11_rests_92 rfl (lv_at hl 0 rfl) ?_
        refine g11_13 X I (k := 0) (by decide) rfl lf_X11_93 dX11_rests_93 ?_
        refine lv_iload X.1 X.2.1 dX11_rests_96 (lv_at hl 5 rfl) ?_
        refine lv_bipush (v := 10) X.1 X.2.1 dX11_rests_98 (by decide) ?_
        refine lv_irem X.1 X.2.1 dX11_rests_100 (by decide) ?_
        refine lv_iload X.1 X.2.1 dX11_rests_101 (lv_at hl 5 rfl) ?_
        refine lv_bipush (v := 10) X.1 X.2.1 dX11_rests_103 (by decide) ?_
        refine lv_idiv X.1 X.2.1 dX11_rests_105 (by decide) ?_
        refine r_ei I (r_runS X I pk_X11_isBest (c11_isBest l G (k := 42) (n := 10) (by decide) rfl (by decide) _ _ _ _) lm_X11_402 rfl hl.1 rfl (Nat.le_of_ble_eq_true rfl) dX11_rests_106 ⟨Nat.le_of_ble_eq_true rfl, Nat.le_of_ble_eq_true rfl⟩ ⟨Nat.le_refl 0, Nat.le_refl 0⟩) (fun H locs I => ?_)
        refine lv_if_eq (tgt := 124) X.1 X.2.1 dX11_rests_109 (by decide) (fun c_5 => ?_) (fun c_5 => ?_)
        · skip
          refine lv_iinc (v := _ + 1) (lv' := [(5, .int _), (0, .ref _), (1, .int _), (2, .int _), (3, .int _), (4, .int _)]) X.1 X.2.1 dX11_rests_124 hl (k := 5) rfl rfl (by decide) rfl (fun ls hl => ?_)
          refine lv_goto (tgt := 65) X.1 X.2.1 dX11_rests_127 (by decide) ?_
          exact ih _ _ _ _ _ I (lv_sub hl [1, 2, 3, 4, 5, 0] rfl) (Nat.lt_of_lt_of_le (up_dec c_3) (Nat.le_of_lt_succ hm)) (hE.trans ((if_neg c_3).trans ((if_pos (b2i_y c_4)).trans ((if_neg (b2i_n c_5)).trans rfl))))
        · skip
          refine lv_iload X.1 X.2.1 dX11_rests_112 (lv_at hl 4 rfl) ?_
          refine lv_iload_n X.1 X.2.1 dX11_rests_114 rfl (lv_at hl 3 rfl) ?_
          refine lv_icmp_ne (tgt := 121) X.1 X.2.1 dX11_rests_115 (by decide) (fun c_6 => ?_) (fun c_6 => ?_)
          · skip
            refine lv_iinc (v := _ + 1) (lv' := [(4, .int _), (0, .ref _), (1, .int _), (2, .int _), (3, .int _), (5, .int _)]) X.1 X.2.1 dX11_rests_121 hl (k := 4) rfl rfl (by decide) rfl (fun ls hl => ?_)
            refine lv_iinc (v := _ + 1) (lv' := [(5, .int _), (4, .int _), (0, .ref _), (1, .int _), (2, .int _), (3, .int _)]) X.1 X.2.1 dX11_rests_124 hl (k := 5) rfl rfl (by decide) rfl (fun ls hl => ?_)
            refine lv_goto (tgt := 65) X.1 X.2.1 dX11_rests_127 (by decide) ?_
            exact ih _ _ _ _ _ I (lv_sub hl [2, 3, 4, 5, 1, 0] rfl) (Nat.lt_of_lt_of_le (up_dec c_3) (Nat.le_of_lt_succ hm)) (hE.trans ((if_neg c_3).trans ((if_pos (b2i_y c_4)).trans ((if_pos (b2i_y c_5)).trans ((if_neg c_6).trans rfl)))))
          · skip
            refine lv_iload X.1 X.2.1 dX11_rests_118 (lv_at hl 5 rfl) ?_
            have h9 := hE.trans ((if_neg c_3).trans ((if_pos (b2i_y c_4)).trans ((if_pos (b2i_y c_5)).trans ((if_pos c_6).trans rfl))))
            exact r_iret X I (e_i (congrArg Prod.fst h9).symm (congrArg Prod.snd h9).symm rfl) dX11_rests_120
set_option maxHeartbeats 4000000 in
set_option maxRecDepth 100000 in
theorem c11_rests_c14 {l : Launch} {p : Program} {e : Env} {s : State} {m : MethodId} {args : Array Value} {below : List Frame} {meth : Method} {c : Code} {G : GT} (X : CX p s m args meth c cX11_rests RX11 6 (some .int) G) {E : Int32 × SI} (τ : SL) (x1 : Int32) (x2 : Int32) (x3 : Int32) : ∀ (fu : Nat) (v4 : Int32) (σ : SI) (H : Heap) (locs : List Loc) (ls : Array Slot), IX G s H locs σ τ → lv_has ls 6 [(0, .ref (G.2.1 0)), (1, .int x1), (2, .int x2), (3, .int x3), (4, .int v4)] → (Int32.toInt (10 : Int32) - Int32.toInt v4).toNat < fu → E = (f11_rests_c14 x1 x2 x3 fu v4 σ) → W p l e (rmN 9) s m args below meth c H locs 0 0 (MQ below ((Qi G (Ei E.1 E.2 τ)) s.heap.size) args s 0 0 (AW G s.heap.size)) (F0 m 14 ls []) := by
  intro fu
  induction fu with
  | zero =>
    intro v4 σ H locs ls I hl  hm hE
    exact absurd hm (Nat.not_lt_zero _)
  | succ fu ih =>
    intro v4 σ H locs ls I hl  hm hE
    refine lv_iload X.1 X.2.1 dX11_rests_14 (lv_at hl 4 rfl) ?_
    refine lv_bipush (v := 10) X.1 X.2.1 dX11_rests_16 (by decide) ?_
    refine lv_icmp_ge (tgt := 59) X.1 X.2.1 dX11_rests_18 (by decide) (fun c_2 => ?_) (fun c_2 => ?_)
    · skip
      refine lv_iconst (v := 0) X.1 X.2.1 dX11_rests_59 (by decide) ?_
      refine lv_istore (lv' := [(4, .int _), (0, .ref _), (1, .int _), (2, .int _), (3, .int _)]) X.1 X.2.1 dX11_rests_60 hl (by decide) rfl (fun ls hl => ?_)
      refine lv_iconst (v := 0) X.1 X.2.1 dX11_rests_62 (by decide) ?_
      refine lv_istore (lv' := [(5, .int _), (4, .int _), (0, .ref _), (1, .int _), (2, .int _), (3, .int _)]) X.1 X.2.1 dX11_rests_63 hl (by decide) rfl (fun ls hl => ?_)
      refine c11_rests_c65 X _ _ _ _ _ (fun y1_4 y1_5 H locs ls I hl hE => ?_) _ _ _ _ _ _ I (lv_sub hl [2, 3, 4, 5, 1, 0] rfl) (Nat.lt_succ_self _) (hE.trans ((if_pos c_2).trans rfl))
      refine lv_iload_n X.1 X.2.1 dX11_rests_130 rfl (lv_at hl 3 rfl) ?_
      refine lv_iconst (v := (-1)) X.1 X.2.1 dX11_rests_131 (by decide) ?_
      refine lv_icmp_ne (tgt := 140) X.1 X.2.1 dX11_rests_132 (by decide) (fun c_7 => ?_) (fun c_7 => ?_)
      · skip
        refine lv_iconst (v := (-1)) X.1 X.2.1 dX11_rests_140 (by decide) ?_
        have h9 := hE.trans ((if_neg c_7).trans rfl)
        exact r_iret X I (e_i (congrArg Prod.fst h9).symm (congrArg Prod.snd h9).symm rfl) dX11_rests_141
      · skip
        refine lv_iload X.1 X.2.1 dX11_rests_135 (lv_at hl 4 rfl) ?_
        refine lv_goto (tgt := 141) X.1 X.2.1 dX11_rests_137 (by decide) ?_
        have h9 := hE.trans ((if_pos c_7).trans rfl)
        exact r_iret X I (e_i (congrArg Prod.fst h9).symm (congrArg Prod.snd h9).symm rfl) dX11_rests_141
    · skip
      refine lv_aload_n X.1 X.2.1 dX11_rests_21 rfl (lv_at hl 0 rfl) ?_
      refine g11_12 X I (k := 0) (by decide) rfl lf_X11_90 dX11_rests_22 ?_
      refine lv_iload X.1 X.2.1 dX11_rests_25 (lv_at hl 4 rfl) ?_
      refine lv_aload_n X.1 X.2.1 dX11_rests_27 rfl (lv_at hl 0 rfl) ?_
      refine lv_iload_n X.1 X.2.1 dX11_rests_28 rfl (lv_at hl 1 rfl) ?_
      refine lv_iload X.1 X.2.1 dX11_rests_29 (lv_at hl 4 rfl) ?_
      refine r_ei I (r_runV X I pk_X11_standsClaimed (c11_standsClaimed l G _ _ _ _) lm_X11_392 (by decide) (cl_11 rfl) rfl rfl rfl hl.1 rfl (Nat.le_of_ble_eq_true rfl) dX11_rests_31 ⟨Nat.le_of_ble_eq_true rfl, Nat.le_of_ble_eq_true rfl⟩ ⟨Nat.le_refl 0, Nat.le_refl 0⟩) (fun H locs I => ?_)
      refine r_ev I (r_runS X I pk_X11_setCell (c11_setCell l G (k := 41) (n := 10) (by decide) rfl (by decide) _ _ _ _) lm_X11_398 rfl hl.1 rfl (Nat.le_of_ble_eq_true rfl) dX11_rests_34 ⟨Nat.le_of_ble_eq_true rfl, Nat.le_of_ble_eq_true rfl⟩ ⟨Nat.le_refl 0, Nat.le_refl 0⟩) (fun H locs I => ?_)
      refine lv_aload_n X.1 X.2.1 dX11_rests_37 rfl (lv_at hl 0 rfl) ?_
      refine g11_13 X I (k := 0) (by decide) rfl lf_X11_93 dX11_rests_38 ?_
      refine lv_iload X.1 X.2.1 dX11_rests_41 (lv_at hl 4 rfl) ?_
      refine lv_aload_n X.1 X.2.1 dX11_rests_43 rfl (lv_at hl 0 rfl) ?_
      refine lv_iload_n X.1 X.2.1 dX11_rests_44 rfl (lv_at hl 2 rfl) ?_
      refine lv_iload X.1 X.2.1 dX11_rests_45 (lv_at hl 4 rfl) ?_
      refine r_ei I (r_runV X I pk_X11_standsClaimed (c11_standsClaimed l G _ _ _ _) lm_X11_392 (by decide) (cl_11 rfl) rfl rfl rfl hl.1 rfl (Nat.le_of_ble_eq_true rfl) dX11_rests_47 ⟨Nat.le_of_ble_eq_true rfl, Nat.le_of_ble_eq_true rfl⟩ ⟨Nat.le_refl 0, Nat.le_refl 0⟩) (fun H locs I => ?_)
      refine r_ev I (r_runS X I pk_X11_setCell (c11_setCell l G (k := 42) (n := 10) (by decide) rfl (by decide) _ _ _ _) lm_X11_398 rfl hl.1 rfl (Nat.le_of_ble_eq_true rfl) dX11_rests_50 ⟨Nat.le_of_ble_eq_true rfl, Nat.le_of_ble_eq_true rfl⟩ ⟨Nat.le_refl 0, Nat.le_refl 0⟩) (fun H locs I => ?_)
      refine lv_iinc (v := _ + 1) (lv' := [(4, .int _), (0, .ref _), (1, .int _), (2, .int _), (3, .int _)]) X.1 X.2.1 dX11_rests_53 hl (k := 4) rfl rfl (by decide) rfl (fun ls hl => ?_)
      refine lv_goto (tgt := 14) X.1 X.2.1 dX11_rests_56 (by decide) ?_
      exact ih _ _ _ _ _ I (lv_sub hl [1, 2, 3, 4, 0] rfl) (Nat.lt_of_lt_of_le (up_dec c_2) (Nat.le_of_lt_succ hm)) (hE.trans ((if_neg c_2).trans rfl))
set_option maxHeartbeats 4000000 in
set_option maxRecDepth 100000 in
theorem c11_rests (l : Launch) (G : GT) (σ : SI) (τ : SL) (x1 : Int32) (x2 : Int32) (x3 : Int32) : Mc l yX11_rests cX11_rests 6 (some .int) 9 G [.ref (G.2.1 0), .int x1, .int x2, .int x3] σ τ (Qi G (Ei (f11_rests σ x1 x2 x3).1 (f11_rests σ x1 x2 x3).2 τ)) := by
  refine m_start (by decide +kernel) (Nat.le_of_ble_eq_true rfl) rfl (fun p e s m args below meth c ls X I hl => ?_)
  have hl : lv_has ls 6 [(0, .ref (G.2.1 0)), (1, .int x1), (2, .int x2), (3, .int x3)] := hl
  obtain ⟨E, hE⟩ : ∃ E, E = (f11_rests σ x1 x2 x3) := ⟨_, rfl⟩
  rw [← hE]
  refine lv_aload_n X.1 X.2.1 dX11_rests_0 rfl (lv_at hl 0 rfl) ?_
  refine lv_iload_n X.1 X.2.1 dX11_rests_1 rfl (lv_at hl 1 rfl) ?_
  refine lv_iload_n X.1 X.2.1 dX11_rests_2 rfl (lv_at hl 2 rfl) ?_
  refine r_ei I (r_runV X I pk_X11_arePlaying (c11_arePlaying l G _ _ _ _) lm_X11_385 (by decide) (cl_11 rfl) rfl rfl rfl hl.1 rfl (Nat.le_of_ble_eq_true rfl) dX11_rests_3 ⟨Nat.le_of_ble_eq_true rfl, Nat.le_of_ble_eq_true rfl⟩ ⟨Nat.le_refl 0, Nat.le_refl 0⟩) (fun H locs I => ?_)
  refine lv_if_ne (tgt := 11) X.1 X.2.1 dX11_rests_6 (by decide) (fun c_1 => ?_) (fun c_1 => ?_)
  · skip
    refine lv_iconst (v := 0) X.1 X.2.1 dX11_rests_11 (by decide) ?_
    refine lv_istore (lv' := [(4, .int _), (0, .ref _), (1, .int _), (2, .int _), (3, .int _)]) X.1 X.2.1 dX11_rests_12 hl (by decide) rfl (fun ls hl => ?_)
    exact c11_rests_c14 X _ _ _ _ _ _ _ _ _ _ I (lv_sub hl [1, 2, 3, 4, 0] rfl) (Nat.lt_succ_self _) (hE.trans ((if_pos (b2i_y c_1)).trans rfl))
  · skip
    refine lv_iconst (v := (-1)) X.1 X.2.1 dX11_rests_9 (by decide) ?_
    have h9 := hE.trans ((if_neg (b2i_n c_1)).trans rfl)
    exact r_iret X I (e_i (congrArg Prod.fst h9).symm (congrArg Prod.snd h9).symm rfl) dX11_rests_10
def f11_rivalComes_c7 (σ : SI) (x1 : Int32) : Nat → Int32 → Int32 → Int32 → Int32
  | 0, _, _, _ => 0
  | fu + 1, v2, v3, v4 => if (f8_houses 10 σ) ≤ v4 then (-1 : Int32) else (if (f0_grievanceOf 24 σ v4) = (0 : Int32) then (if v4 = x1 then (v2 + (f8_distance 10 σ v3 v4)) else (f11_rivalComes_c7 σ x1 fu ((v2 + (f8_distance 10 σ v3 v4)) + 2) v4 (v4 + 1))) else (f11_rivalComes_c7 σ x1 fu v2 v3 (v4 + 1)))
def f11_rivalComes (σ : SI) (x1 : Int32) : Int32 := (f11_rivalComes_c7 σ x1 ((Int32.toInt (f8_houses 10 σ) - Int32.toInt (0 : Int32)).toNat + 1) (0 : Int32) (-1 : Int32) (0 : Int32))
set_option maxHeartbeats 4000000 in
set_option maxRecDepth 100000 in
theorem c11_rivalComes_c7 {l : Launch} {p : Program} {e : Env} {s : State} {m : MethodId} {args : Array Value} {below : List Frame} {meth : Method} {c : Code} {G : GT} (X : CX p s m args meth c cX11_rivalComes RX11 5 (some .int) G) {E : Int32} (σ : SI) (τ : SL) (x1 : Int32) : ∀ (fu : Nat) (v2 : Int32) (v3 : Int32) (v4 : Int32) (H : Heap) (locs : List Loc) (ls : Array Slot), IX G s H locs σ τ → lv_has ls 5 [(0, .ref (G.2.1 0)), (1, .int x1), (2, .int v2), (3, .int v3), (4, .int v4)] → (Int32.toInt (f8_houses 10 σ) - Int32.toInt v4).toNat < fu → E = (f11_rivalComes_c7 σ x1 fu v2 v3 v4) → W p l e (rmN 6) s m args below meth c H locs 0 0 (MQ below ((Qi G (Ei E σ τ)) s.heap.size) args s 0 0 (AW G s.heap.size)) (F0 m 7 ls []) := by
  intro fu
  induction fu with
  | zero =>
    intro v2 v3 v4 H locs ls I hl  hm hE
    exact absurd hm (Nat.not_lt_zero _)
  | succ fu ih =>
    intro v2 v3 v4 H locs ls I hl  hm hE
    refine lv_iload X.1 X.2.1 dX11_rivalComes_7 (lv_at hl 4 rfl) ?_
    refine lv_aload_n X.1 X.2.1 dX11_rivalComes_9 rfl (lv_at hl 0 rfl) ?_
    refine g11_3 X I (k := 0) (by decide) rfl lf_X11_35 dX11_rivalComes_10 ?_
    refine r_ei I (r_runV X I pk_X8_houses (c8_houses l G (k := 10) ⟨by decide, rfl, rfl, rfl⟩ _ _) lm_X11_155 (by decide) (cl_8 rfl) rfl rfl rfl hl.1 rfl (Nat.le_of_ble_eq_true rfl) dX11_rivalComes_13 ⟨Nat.le_of_ble_eq_true rfl, Nat.le_of_ble_eq_true rfl⟩ ⟨Nat.le_refl 0, Nat.le_refl 0⟩) (fun H locs I => ?_)
    refine lv_icmp_ge (tgt := 64) X.1 X.2.1 dX11_rivalComes_16 (by decide) (fun c_1 => ?_) (fun c_1 => ?_)
    · skip
      refine lv_iconst (v := (-1)) X.1 X.2.1 dX11_rivalComes_64 (by decide) ?_
      have h9 := hE.trans ((if_pos c_1).trans rfl)
      exact r_iret X I (e_i (h9).symm rfl rfl) dX11_rivalComes_65
    · skip
      refine lv_aload_n X.1 X.2.1 dX11_rivalComes_19 rfl (lv_at hl 0 rfl) ?_
      refine g11_5 X I (k := 0) (by decide) rfl lf_X11_49 dX11_rivalComes_20 ?_
      refine lv_iload X.1 X.2.1 dX11_rivalComes_23 (lv_at hl 4 rfl) ?_
      refine r_ei I (r_runV X I pk_X0_grievanceOf (c0_grievanceOf l G (k := 24) ⟨by decide, rfl, rfl⟩ _ _ _) lm_X11_185 (by decide) (cl_0 rfl) rfl rfl rfl hl.1 rfl (Nat.le_of_ble_eq_true rfl) dX11_rivalComes_25 ⟨Nat.le_of_ble_eq_true rfl, Nat.le_of_ble_eq_true rfl⟩ ⟨Nat.le_refl 0, Nat.le_refl 0⟩) (fun H locs I => ?_)
      refine lv_if_ne (tgt := 58) X.1 X.2.1 dX11_rivalComes_28 (by decide) (fun c_2 => ?_) (fun c_2 => ?_)
      · skip
        refine lv_iinc (v := _ + 1) (lv' := [(4, .int _), (0, .ref _), (1, .int _), (2, .int _), (3, .int _)]) X.1 X.2.1 dX11_rivalComes_58 hl (k := 4) rfl rfl (by decide) rfl (fun ls hl => ?_)
        refine lv_goto (tgt := 7) X.1 X.2.1 dX11_rivalComes_61 (by decide) ?_
        exact ih _ _ _ _ _ _ I (lv_sub hl [1, 2, 3, 4, 0] rfl) (Nat.lt_of_lt_of_le (up_dec c_1) (Nat.le_of_lt_succ hm)) (hE.trans ((if_neg c_1).trans ((if_neg c_2).trans rfl)))
      · skip
        refine lv_iload_n X.1 X.2.1 dX11_rivalComes_31 rfl (lv_at hl 2 rfl) ?_
        refine lv_aload_n X.1 X.2.1 dX11_rivalComes_32 rfl (lv_at hl 0 rfl) ?_
        refine g11_3 X I (k := 0) (by decide) rfl lf_X11_35 dX11_rivalComes_33 ?_
        refine lv_iload_n X.1 X.2.1 dX11_rivalComes_36 rfl (lv_at hl 3 rfl) ?_
        refine lv_iload X.1 X.2.1 dX11_rivalComes_37 (lv_at hl 4 rfl) ?_
        refine r_ei I (r_runV X I pk_X8_distance (c8_distance l G (k := 10) ⟨by decide, rfl, rfl, rfl⟩ _ _ _ _) lm_X11_206 (by decide) (cl_8 rfl) rfl rfl rfl hl.1 rfl (Nat.le_of_ble_eq_true rfl) dX11_rivalComes_39 ⟨Nat.le_of_ble_eq_true rfl, Nat.le_of_ble_eq_true rfl⟩ ⟨Nat.le_refl 0, Nat.le_refl 0⟩) (fun H locs I => ?_)
        refine lv_iadd X.1 X.2.1 dX11_rivalComes_42 ?_
        refine lv_istore_n (lv' := [(2, .int _), (0, .ref _), (1, .int _), (3, .int _), (4, .int _)]) X.1 X.2.1 dX11_rivalComes_43 rfl hl (by decide) rfl (fun ls hl => ?_)
        refine lv_iload X.1 X.2.1 dX11_rivalComes_44 (lv_at hl 4 rfl) ?_
        refine lv_iload_n X.1 X.2.1 dX11_rivalComes_46 rfl (lv_at hl 2 rfl) ?_
        refine lv_icmp_ne (tgt := 52) X.1 X.2.1 dX11_rivalComes_47 (by decide) (fun c_3 => ?_) (fun c_3 => ?_)
        · skip
          refine lv_iinc (v := _ + 2) (lv' := [(2, .int _), (0, .ref _), (1, .int _), (3, .int _), (4, .int _)]) X.1 X.2.1 dX11_rivalComes_52 hl (k := 0) rfl rfl (by decide) rfl (fun ls hl => ?_)
          refine lv_iload X.1 X.2.1 dX11_rivalComes_55 (lv_at hl 4 rfl) ?_
          refine lv_istore_n (lv' := [(3, .int _), (2, .int _), (0, .ref _), (1, .int _), (4, .int _)]) X.1 X.2.1 dX11_rivalComes_57 rfl hl (by decide) rfl (fun ls hl => ?_)
          refine lv_iinc (v := _ + 1) (lv' := [(4, .int _), (3, .int _), (2, .int _), (0, .ref _), (1, .int _)]) X.1 X.2.1 dX11_rivalComes_58 hl (k := 4) rfl rfl (by decide) rfl (fun ls hl => ?_)
          refine lv_goto (tgt := 7) X.1 X.2.1 dX11_rivalComes_61 (by decide) ?_
          exact ih _ _ _ _ _ _ I (lv_sub hl [3, 4, 2, 1, 0] rfl) (Nat.lt_of_lt_of_le (up_dec c_1) (Nat.le_of_lt_succ hm)) (hE.trans ((if_neg c_1).trans ((if_pos c_2).trans ((if_neg c_3).trans rfl))))
        · skip
          refine lv_iload_n X.1 X.2.1 dX11_rivalComes_50 rfl (lv_at hl 0 rfl) ?_
          have h9 := hE.trans ((if_neg c_1).trans ((if_pos c_2).trans ((if_pos c_3).trans rfl)))
          exact r_iret X I (e_i (h9).symm rfl rfl) dX11_rivalComes_51
set_option maxHeartbeats 4000000 in
set_option maxRecDepth 100000 in
theorem c11_rivalComes (l : Launch) (G : GT) (σ : SI) (τ : SL) (x1 : Int32) : Mc l yX11_rivalComes cX11_rivalComes 5 (some .int) 6 G [.ref (G.2.1 0), .int x1] σ τ (Qi G (Ei (f11_rivalComes σ x1) σ τ)) := by
  refine m_start (by decide +kernel) (Nat.le_of_ble_eq_true rfl) rfl (fun p e s m args below meth c ls X I hl => ?_)
  have hl : lv_has ls 5 [(0, .ref (G.2.1 0)), (1, .int x1)] := hl
  obtain ⟨E, hE⟩ : ∃ E, E = (f11_rivalComes σ x1) := ⟨_, rfl⟩
  rw [← hE]
  refine lv_iconst (v := 0) X.1 X.2.1 dX11_rivalComes_0 (by decide) ?_
  refine lv_istore_n (lv' := [(2, .int _), (0, .ref _), (1, .int _)]) X.1 X.2.1 dX11_rivalComes_1 rfl hl (by decide) rfl (fun ls hl => ?_)
  refine lv_iconst (v := (-1)) X.1 X.2.1 dX11_rivalComes_2 (by decide) ?_
  refine lv_istore_n (lv' := [(3, .int _), (2, .int _), (0, .ref _), (1, .int _)]) X.1 X.2.1 dX11_rivalComes_3 rfl hl (by decide) rfl (fun ls hl => ?_)
  refine lv_iconst (v := 0) X.1 X.2.1 dX11_rivalComes_4 (by decide) ?_
  refine lv_istore (lv' := [(4, .int _), (3, .int _), (2, .int _), (0, .ref _), (1, .int _)]) X.1 X.2.1 dX11_rivalComes_5 hl (by decide) rfl (fun ls hl => ?_)
  exact c11_rivalComes_c7 X _ _ _ _ _ _ _ _ _ _ I (lv_sub hl [3, 4, 2, 1, 0] rfl) (Nat.lt_succ_self _) (hE.trans (rfl))
def f11_rival (σ : SI) (x1 : Int32) : Int32 := if (f8_isHouse 10 σ x1) = true then (f11_rivalComes σ x1) else (-1 : Int32)
set_option maxHeartbeats 4000000 in
set_option maxRecDepth 100000 in
theorem c11_rival (l : Launch) (G : GT) (σ : SI) (τ : SL) (x1 : Int32) : Mc l yX11_rival cX11_rival 2 (some .int) 7 G [.ref (G.2.1 0), .int x1] σ τ (Qi G (Ei (f11_rival σ x1) σ τ)) := by
  refine m_start (by decide +kernel) (Nat.le_of_ble_eq_true rfl) rfl (fun p e s m args below meth c ls X I hl => ?_)
  have hl : lv_has ls 2 [(0, .ref (G.2.1 0)), (1, .int x1)] := hl
  obtain ⟨E, hE⟩ : ∃ E, E = (f11_rival σ x1) := ⟨_, rfl⟩
  rw [← hE]
  refine lv_aload_n X.1 X.2.1 dX11_rival_0 rfl (lv_at hl 0 rfl) ?_
  refine g11_3 X I (k := 0) (by decide) rfl lf_X11_35 dX11_rival_1 ?_
  refine lv_iload_n X.1 X.2.1 dX11_rival_4 rfl (lv_at hl 1 rfl) ?_
  refine r_ei I (r_runV X I pk_X8_isHouse (c8_isHouse l G (k := 10) ⟨by decide, rfl, rfl, rfl⟩ _ _ _) lm_X11_173 (by decide) (cl_8 rfl) rfl rfl rfl hl.1 rfl (Nat.le_of_ble_eq_true rfl) dX11_rival_5 ⟨Nat.le_of_ble_eq_true rfl, Nat.le_of_ble_eq_true rfl⟩ ⟨Nat.le_refl 0, Nat.le_refl 0⟩) (fun H locs I => ?_)
  refine lv_if_eq (tgt := 19) X.1 X.2.1 dX11_rival_8 (by decide) (fun c_1 => ?_) (fun c_1 => ?_)
  · skip
    refine lv_iconst (v := (-1)) X.1 X.2.1 dX11_rival_19 (by decide) ?_
    have h9 := hE.trans ((if_neg (b2i_n c_1)).trans rfl)
    exact r_iret X I (e_i (h9).symm rfl rfl) dX11_rival_20
  · skip
    refine lv_aload_n X.1 X.2.1 dX11_rival_11 rfl (lv_at hl 0 rfl) ?_
    refine lv_iload_n X.1 X.2.1 dX11_rival_12 rfl (lv_at hl 1 rfl) ?_
    refine r_ei I (r_runV X I pk_X11_rivalComes (c11_rivalComes l G _ _ _) lm_X11_410 (by decide) (cl_11 rfl) rfl rfl rfl hl.1 rfl (Nat.le_of_ble_eq_true rfl) dX11_rival_13 ⟨Nat.le_of_ble_eq_true rfl, Nat.le_of_ble_eq_true rfl⟩ ⟨Nat.le_refl 0, Nat.le_refl 0⟩) (fun H locs I => ?_)
    refine lv_goto (tgt := 20) X.1 X.2.1 dX11_rival_16 (by decide) ?_
    have h9 := hE.trans ((if_pos (b2i_y c_1)).trans rfl)
    exact r_iret X I (e_i (h9).symm rfl rfl) dX11_rival_20
def f11_meets (σ : SI) (x1 : Int32) : Int32 × SI := if (f8_isHouse 10 σ x1) = true then (if (f11_rivalComes σ x1) = (-1 : Int32) then ((0 : Int32), σ) else (let r0 := (f11_standsNow σ x1 (f0_grievanceOf 24 σ x1)); if (((σ 24 2) + (f11_stepsTo σ x1)) + (if (1 : Int32) < r0.1 then r0.1 else (1 : Int32))) ≤ (f11_rivalComes σ x1) then ((0 : Int32), r0.2) else (if ((f11_rivalComes σ x1) + (2 : Int32)) ≤ ((σ 24 2) + (f11_stepsTo σ x1)) then ((0 : Int32), r0.2) else ((1 : Int32), r0.2)))) else ((-1 : Int32), σ)
theorem w_f11_meets (σ : SI) (x1 : Int32) (a : Nat) (h0 : a ≠ 13) (h1 : a ≠ 15) : (f11_meets σ x1).2 a = σ a := by
  unfold f11_meets
  (repeat' split) <;> (first | rfl | (simp only [sp_n, su_n, ne_eq, not_false_eq_true, h0, h1, w_f11_standsNow]; done) | (simp [sp_n, su_n, ne_eq, not_false_eq_true, h0, h1, w_f11_standsNow]; done))
set_option maxHeartbeats 4000000 in
set_option maxRecDepth 100000 in
theorem c11_meets (l : Launch) (G : GT) (σ : SI) (τ : SL) (x1 : Int32) : Mc l yX11_meets cX11_meets 5 (some .int) 8 G [.ref (G.2.1 0), .int x1] σ τ (Qi G (Ei (f11_meets σ x1).1 (f11_meets σ x1).2 τ)) := by
  refine m_start (by decide +kernel) (Nat.le_of_ble_eq_true rfl) rfl (fun p e s m args below meth c ls X I hl => ?_)
  have hl : lv_has ls 5 [(0, .ref (G.2.1 0)), (1, .int x1)] := hl
  obtain ⟨E, hE⟩ : ∃ E, E = (f11_meets σ x1) := ⟨_, rfl⟩
  rw [← hE]
  refine lv_aload_n X.1 X.2.1 dX11_meets_0 rfl (lv_at hl 0 rfl) ?_
  refine g11_3 X I (k := 0) (by decide) rfl lf_X11_35 dX11_meets_1 ?_
  refine lv_iload_n X.1 X.2.1 dX11_meets_4 rfl (lv_at hl 1 rfl) ?_
  refine r_ei I (r_runV X I pk_X8_isHouse (c8_isHouse l G (k := 10) ⟨by decide, rfl, rfl, rfl⟩ _ _ _) lm_X11_173 (by decide) (cl_8 rfl) rfl rfl rfl hl.1 rfl (Nat.le_of_ble_eq_true rfl) dX11_meets_5 ⟨Nat.le_of_ble_eq_true rfl, Nat.le_of_ble_eq_true rfl⟩ ⟨Nat.le_refl 0, Nat.le_refl 0⟩) (fun H locs I => ?_)
  refine lv_if_ne (tgt := 13) X.1 X.2.1 dX11_meets_8 (by decide) (fun c_1 => ?_) (fun c_1 => ?_)
  · skip
    refine lv_aload_n X.1 X.2.1 dX11_meets_13 rfl (lv_at hl 0 rfl) ?_
    refine lv_iload_n X.1 X.2.1 dX11_meets_14 rfl (lv_at hl 1 rfl) ?_
    refine r_ei I (r_runV X I pk_X11_rivalComes (c11_rivalComes l G _ _ _) lm_X11_410 (by decide) (cl_11 rfl) rfl rfl rfl hl.1 rfl (Nat.le_of_ble_eq_true rfl) dX11_meets_15 ⟨Nat.le_of_ble_eq_true rfl, Nat.le_of_ble_eq_true rfl⟩ ⟨Nat.le_refl 0, Nat.le_refl 0⟩) (fun H locs I => ?_)
    refine lv_istore_n (lv' := [(2, .int _), (0, .ref _), (1, .int _)]) X.1 X.2.1 dX11_meets_18 rfl hl (by decide) rfl (fun ls hl => ?_)
    refine lv_iload_n X.1 X.2.1 dX11_meets_19 rfl (lv_at hl 0 rfl) ?_
    refine lv_iconst (v := (-1)) X.1 X.2.1 dX11_meets_20 (by decide) ?_
    refine lv_icmp_ne (tgt := 26) X.1 X.2.1 dX11_meets_21 (by decide) (fun c_2 => ?_) (fun c_2 => ?_)
    · skip
      refine lv_aload_n X.1 X.2.1 dX11_meets_26 rfl (lv_at hl 1 rfl) ?_
      refine g11_5 X I (k := 0) (by decide) rfl lf_X11_49 dX11_meets_27 ?_
      refine g0_2 X I (k := 24) (by decide) rfl lf_X11_216 dX11_meets_30 ?_
      refine lv_aload_n X.1 X.2.1 dX11_meets_33 rfl (lv_at hl 1 rfl) ?_
      refine lv_iload_n X.1 X.2.1 dX11_meets_34 rfl (lv_at hl 2 rfl) ?_
      refine r_ei I (r_runV X I pk_X11_stepsTo (c11_stepsTo l G _ _ _) lm_X11_203 (by decide) (cl_11 rfl) rfl rfl rfl hl.1 rfl (Nat.le_of_ble_eq_true rfl) dX11_meets_35 ⟨Nat.le_of_ble_eq_true rfl, Nat.le_of_ble_eq_true rfl⟩ ⟨Nat.le_refl 0, Nat.le_refl 0⟩) (fun H locs I => ?_)
      refine lv_iadd X.1 X.2.1 dX11_meets_38 ?_
      refine lv_istore_n (lv' := [(3, .int _), (2, .int _), (0, .ref _), (1, .int _)]) X.1 X.2.1 dX11_meets_39 rfl hl (by decide) rfl (fun ls hl => ?_)
      refine lv_iconst (v := 1) X.1 X.2.1 dX11_meets_40 (by decide) ?_
      refine lv_aload_n X.1 X.2.1 dX11_meets_41 rfl (lv_at hl 2 rfl) ?_
      refine lv_iload_n X.1 X.2.1 dX11_meets_42 rfl (lv_at hl 3 rfl) ?_
      refine lv_aload_n X.1 X.2.1 dX11_meets_43 rfl (lv_at hl 2 rfl) ?_
      refine g11_5 X I (k := 0) (by decide) rfl lf_X11_49 dX11_meets_44 ?_
      refine lv_iload_n X.1 X.2.1 dX11_meets_47 rfl (lv_at hl 3 rfl) ?_
      refine r_ei I (r_runV X I pk_X0_grievanceOf (c0_grievanceOf l G (k := 24) ⟨by decide, rfl, rfl⟩ _ _ _) lm_X11_185 (by decide) (cl_0 rfl) rfl rfl rfl hl.1 rfl (Nat.le_of_ble_eq_true rfl) dX11_meets_48 ⟨Nat.le_of_ble_eq_true rfl, Nat.le_of_ble_eq_true rfl⟩ ⟨Nat.le_refl 0, Nat.le_refl 0⟩) (fun H locs I => ?_)
      refine r_ei I (r_runV X I pk_X11_standsNow (c11_standsNow l G _ _ _ _) lm_X11_210 (by decide) (cl_11 rfl) rfl rfl rfl hl.1 rfl (Nat.le_of_ble_eq_true rfl) dX11_meets_51 ⟨Nat.le_of_ble_eq_true rfl, Nat.le_of_ble_eq_true rfl⟩ ⟨Nat.le_refl 0, Nat.le_refl 0⟩) (fun H locs I => ?_)
      refine r_mmax X hl.1 lm_X11_272 ls_J9_max_7cf53 ln_J9 lc_J9_max_7cf53 (Nat.le_of_ble_eq_true rfl) (Nat.le_of_ble_eq_true rfl) (Nat.le_refl 0) (Nat.le_refl 0) dX11_meets_54 ?_
      refine lv_istore (lv' := [(4, .int _), (3, .int _), (2, .int _), (0, .ref _), (1, .int _)]) X.1 X.2.1 dX11_meets_57 hl (by decide) rfl (fun ls hl => ?_)
      refine lv_iload_n X.1 X.2.1 dX11_meets_59 rfl (lv_at hl 2 rfl) ?_
      refine lv_iload_n X.1 X.2.1 dX11_meets_60 rfl (lv_at hl 1 rfl) ?_
      refine lv_iload X.1 X.2.1 dX11_meets_61 (lv_at hl 0 rfl) ?_
      refine lv_iadd X.1 X.2.1 dX11_meets_63 ?_
      refine lv_icmp_ge (tgt := 78) X.1 X.2.1 dX11_meets_64 (by decide) (fun c_3 => ?_) (fun c_3 => ?_)
      · skip
        refine lv_iconst (v := 0) X.1 X.2.1 dX11_meets_78 (by decide) ?_
        have h9 := hE.trans ((if_pos (b2i_y c_1)).trans ((if_neg c_2).trans ((if_pos c_3).trans rfl)))
        exact r_iret X I (e_i (congrArg Prod.fst h9).symm (congrArg Prod.snd h9).symm rfl) dX11_meets_79
      · skip
        refine lv_iload_n X.1 X.2.1 dX11_meets_67 rfl (lv_at hl 1 rfl) ?_
        refine lv_iload_n X.1 X.2.1 dX11_meets_68 rfl (lv_at hl 2 rfl) ?_
        refine lv_iconst (v := 2) X.1 X.2.1 dX11_meets_69 (by decide) ?_
        refine lv_iadd X.1 X.2.1 dX11_meets_70 ?_
        refine lv_icmp_ge (tgt := 78) X.1 X.2.1 dX11_meets_71 (by decide) (fun c_4 => ?_) (fun c_4 => ?_)
        · skip
          refine lv_iconst (v := 0) X.1 X.2.1 dX11_meets_78 (by decide) ?_
          have h9 := hE.trans ((if_pos (b2i_y c_1)).trans ((if_neg c_2).trans ((if_neg c_3).trans ((if_pos c_4).trans rfl))))
          exact r_iret X I (e_i (congrArg Prod.fst h9).symm (congrArg Prod.snd h9).symm rfl) dX11_meets_79
        · skip
          refine lv_iconst (v := 1) X.1 X.2.1 dX11_meets_74 (by decide) ?_
          refine lv_goto (tgt := 79) X.1 X.2.1 dX11_meets_75 (by decide) ?_
          have h9 := hE.trans ((if_pos (b2i_y c_1)).trans ((if_neg c_2).trans ((if_neg c_3).trans ((if_neg c_4).trans rfl))))
          exact r_iret X I (e_i (congrArg Prod.fst h9).symm (congrArg Prod.snd h9).symm rfl) dX11_meets_79
    · skip
      refine lv_iconst (v := 0) X.1 X.2.1 dX11_meets_24 (by decide) ?_
      have h9 := hE.trans ((if_pos (b2i_y c_1)).trans ((if_pos c_2).trans rfl))
      exact r_iret X I (e_i (congrArg Prod.fst h9).symm (congrArg Prod.snd h9).symm rfl) dX11_meets_25
  · skip
    refine lv_iconst (v := (-1)) X.1 X.2.1 dX11_meets_11 (by decide) ?_
    have h9 := hE.trans ((if_neg (b2i_n c_1)).trans rfl)
    exact r_iret X I (e_i (congrArg Prod.fst h9).symm (congrArg Prod.snd h9).symm rfl) dX11_meets_12
def f11_seen (σ : SI) (x1 : Int32) (x2 : Int32) (x3 : Bool) : Int32 × SI := if (f8_isHouse 10 σ x2) = true then (if x1 < (0 : Int32) then ((-1 : Int32), σ) else (if x1 < (7 : Int32) then (let r0 := (f10_tellSeen σ x1 x2 x3); (r0.1, r0.2)) else ((-1 : Int32), σ))) else ((-1 : Int32), σ)
theorem w_f11_seen (σ : SI) (x1 : Int32) (x2 : Int32) (x3 : Bool) (a : Nat) (h0 : a ≠ 33) (h1 : a ≠ 35) : (f11_seen σ x1 x2 x3).2 a = σ a := by
  unfold f11_seen
  (repeat' split) <;> (first | rfl | (simp only [sp_n, su_n, ne_eq, not_false_eq_true, h0, h1, w_f10_tellSeen]; done) | (simp [sp_n, su_n, ne_eq, not_false_eq_true, h0, h1, w_f10_tellSeen]; done))
set_option maxHeartbeats 4000000 in
set_option maxRecDepth 100000 in
theorem c11_seen (l : Launch) (G : GT) (σ : SI) (τ : SL) (x1 : Int32) (x2 : Int32) (x3 : Bool) : Mc l yX11_seen cX11_seen 4 (some .int) 3 G [.ref (G.2.1 0), .int x1, .int x2, .int (b2i x3)] σ τ (Qi G (Ei (f11_seen σ x1 x2 x3).1 (f11_seen σ x1 x2 x3).2 τ)) := by
  refine m_start (by decide +kernel) (Nat.le_of_ble_eq_true rfl) rfl (fun p e s m args below meth c ls X I hl => ?_)
  have hl : lv_has ls 4 [(0, .ref (G.2.1 0)), (1, .int x1), (2, .int x2), (3, .int (b2i x3))] := hl
  obtain ⟨E, hE⟩ : ∃ E, E = (f11_seen σ x1 x2 x3) := ⟨_, rfl⟩
  rw [← hE]
  refine lv_aload_n X.1 X.2.1 dX11_seen_0 rfl (lv_at hl 0 rfl) ?_
  refine g11_3 X I (k := 0) (by decide) rfl lf_X11_35 dX11_seen_1 ?_
  refine lv_iload_n X.1 X.2.1 dX11_seen_4 rfl (lv_at hl 2 rfl) ?_
  refine r_ei I (r_runV X I pk_X8_isHouse (c8_isHouse l G (k := 10) ⟨by decide, rfl, rfl, rfl⟩ _ _ _) lm_X11_173 (by decide) (cl_8 rfl) rfl rfl rfl hl.1 rfl (Nat.le_of_ble_eq_true rfl) dX11_seen_5 ⟨Nat.le_of_ble_eq_true rfl, Nat.le_of_ble_eq_true rfl⟩ ⟨Nat.le_refl 0, Nat.le_refl 0⟩) (fun H locs I => ?_)
  refine lv_if_eq (tgt := 21) X.1 X.2.1 dX11_seen_8 (by decide) (fun c_1 => ?_) (fun c_1 => ?_)
  · skip
    refine lv_iconst (v := (-1)) X.1 X.2.1 dX11_seen_21 (by decide) ?_
    have h9 := hE.trans ((if_neg (b2i_n c_1)).trans rfl)
    exact r_iret X I (e_i (congrArg Prod.fst h9).symm (congrArg Prod.snd h9).symm rfl) dX11_seen_22
  · skip
    refine lv_iload_n X.1 X.2.1 dX11_seen_11 rfl (lv_at hl 1 rfl) ?_
    refine lv_if_lt (tgt := 21) X.1 X.2.1 dX11_seen_12 (by decide) (fun c_2 => ?_) (fun c_2 => ?_)
    · skip
      refine lv_iconst (v := (-1)) X.1 X.2.1 dX11_seen_21 (by decide) ?_
      have h9 := hE.trans ((if_pos (b2i_y c_1)).trans ((if_pos c_2).trans rfl))
      exact r_iret X I (e_i (congrArg Prod.fst h9).symm (congrArg Prod.snd h9).symm rfl) dX11_seen_22
    · skip
      refine lv_iload_n X.1 X.2.1 dX11_seen_15 rfl (lv_at hl 1 rfl) ?_
      refine lv_bipush (v := 7) X.1 X.2.1 dX11_seen_16 (by decide) ?_
      refine lv_icmp_lt (tgt := 23) X.1 X.2.1 dX11_seen_18 (by decide) (fun c_3 => ?_) (fun c_3 => ?_)
      · skip
        refine lv_aload_n X.1 X.2.1 dX11_seen_23 rfl (lv_at hl 0 rfl) ?_
        refine g11_8 X I (k := 0) (by decide) rfl lf_X11_72 dX11_seen_24 ?_
        refine lv_iload_n X.1 X.2.1 dX11_seen_27 rfl (lv_at hl 1 rfl) ?_
        refine lv_iload_n X.1 X.2.1 dX11_seen_28 rfl (lv_at hl 2 rfl) ?_
        refine lv_iload_n X.1 X.2.1 dX11_seen_29 rfl (lv_at hl 3 rfl) ?_
        refine r_ei I (r_runV X I pk_X10_tellSeen (c10_tellSeen l G _ _ _ _ _) lm_X11_413 (by decide) (cl_10 rfl) rfl rfl rfl hl.1 rfl (Nat.le_of_ble_eq_true rfl) dX11_seen_30 ⟨Nat.le_of_ble_eq_true rfl, Nat.le_of_ble_eq_true rfl⟩ ⟨Nat.le_refl 0, Nat.le_refl 0⟩) (fun H locs I => ?_)
        have h9 := hE.trans ((if_pos (b2i_y c_1)).trans ((if_neg c_2).trans ((if_pos c_3).trans rfl)))
        exact r_iret X I (e_i (congrArg Prod.fst h9).symm (congrArg Prod.snd h9).symm rfl) dX11_seen_33
      · skip
        refine lv_iconst (v := (-1)) X.1 X.2.1 dX11_seen_21 (by decide) ?_
        have h9 := hE.trans ((if_pos (b2i_y c_1)).trans ((if_neg c_2).trans ((if_neg c_3).trans rfl)))
        exact r_iret X I (e_i (congrArg Prod.fst h9).symm (congrArg Prod.snd h9).symm rfl) dX11_seen_22
def f11_orderTold_c9 (x1 : Int32) (x2 : Int32) : Nat → Int32 → SI → SI
  | 0, _, σ => σ
  | fu + 1, v3, σ => if (f8_houses 10 σ) ≤ v3 then σ else (if v3 = x1 then (let s2 := (f6_put σ v3 (if ((f8_toldGrievance 10 σ v3) + x2) < (30 : Int32) then ((f8_toldGrievance 10 σ v3) + x2) else (30 : Int32))); (f11_orderTold_c9 x1 x2 fu (v3 + 1) s2)) else (let s1 := (f6_put σ v3 (if ((f8_toldGrievance 10 σ v3) + (0 : Int32)) < (30 : Int32) then ((f8_toldGrievance 10 σ v3) + (0 : Int32)) else (30 : Int32))); (f11_orderTold_c9 x1 x2 fu (v3 + 1) s1)))
def f11_orderTold (σ : SI) (x1 : Int32) (x2 : Int32) : SI := let s0 := (f6_clear σ); (f11_orderTold_c9 x1 x2 ((Int32.toInt (f8_houses 10 s0) - Int32.toInt (0 : Int32)).toNat + 1) (0 : Int32) s0)
theorem w_f11_orderTold_c9 (x1 : Int32) (x2 : Int32) (a : Nat) (h0 : a ≠ 36) (h1 : a ≠ 37) (h2 : a ≠ 38) : ∀ (fu : Nat) (v3 : Int32) (σ : SI), (f11_orderTold_c9 x1 x2 fu v3 σ) a = σ a := by
  intro fu
  induction fu with
  | zero => intros; rfl
  | succ fu ih =>
    intro v3 σ
    unfold f11_orderTold_c9
    (repeat' split) <;> (first | rfl | (simp only [sp_n, su_n, ne_eq, not_false_eq_true, h0, h1, h2, w_f6_clear, w_f6_put, ih]; done) | (simp [sp_n, su_n, ne_eq, not_false_eq_true, h0, h1, h2, w_f6_clear, w_f6_put, ih]; done))
theorem w_f11_orderTold (σ : SI) (x1 : Int32) (x2 : Int32) (a : Nat) (h0 : a ≠ 36) (h1 : a ≠ 37) (h2 : a ≠ 38) : (f11_orderTold σ x1 x2) a = σ a := by
  unfold f11_orderTold
  (repeat' split) <;> (first | rfl | (simp only [sp_n, su_n, ne_eq, not_false_eq_true, h0, h1, h2, w_f6_clear, w_f6_put, w_f11_orderTold_c9]; done) | (simp [sp_n, su_n, ne_eq, not_false_eq_true, h0, h1, h2, w_f6_clear, w_f6_put, w_f11_orderTold_c9]; done))
set_option maxHeartbeats 4000000 in
set_option maxRecDepth 100000 in
theorem c11_orderTold_c9 {l : Launch} {p : Program} {e : Env} {s : State} {m : MethodId} {args : Array Value} {below : List Frame} {meth : Method} {c : Code} {G : GT} (X : CX p s m args meth c cX11_orderTold RX11 5 none G) {E : SI} (τ : SL) (x1 : Int32) (x2 : Int32) : ∀ (fu : Nat) (v3 : Int32) (σ : SI) (H : Heap) (locs : List Loc) (ls : Array Slot), IX G s H locs σ τ → lv_has ls 5 [(0, .ref (G.2.1 0)), (1, .int x1), (2, .int x2), (3, .int v3)] → (Int32.toInt (f8_houses 10 σ) - Int32.toInt v3).toNat < fu → E = (f11_orderTold_c9 x1 x2 fu v3 σ) → W p l e (rmN 5) s m args below meth c H locs 0 0 (MQ below ((Qv G (Ev E τ)) s.heap.size) args s 0 0 (AW G s.heap.size)) (F0 m 9 ls []) := by
  intro fu
  induction fu with
  | zero =>
    intro v3 σ H locs ls I hl  hm hE
    exact absurd hm (Nat.not_lt_zero _)
  | succ fu ih =>
    intro v3 σ H locs ls I hl  hm hE
    refine lv_iload_n X.1 X.2.1 dX11_orderTold_9 rfl (lv_at hl 3 rfl) ?_
    refine lv_aload_n X.1 X.2.1 dX11_orderTold_10 rfl (lv_at hl 0 rfl) ?_
    refine g11_3 X I (k := 0) (by decide) rfl lf_X11_35 dX11_orderTold_11 ?_
    refine r_ei I (r_runV X I pk_X8_houses (c8_houses l G (k := 10) ⟨by decide, rfl, rfl, rfl⟩ _ _) lm_X11_155 (by decide) (cl_8 rfl) rfl rfl rfl hl.1 rfl (Nat.le_of_ble_eq_true rfl) dX11_orderTold_14 ⟨Nat.le_of_ble_eq_true rfl, Nat.le_of_ble_eq_true rfl⟩ ⟨Nat.le_refl 0, Nat.le_refl 0⟩) (fun H locs I => ?_)
    refine lv_icmp_ge (tgt := 62) X.1 X.2.1 dX11_orderTold_17 (by decide) (fun c_1 => ?_) (fun c_1 => ?_)
    · skip
      have h9 := hE.trans ((if_pos c_1).trans rfl)
      exact r_vret X I (e_v (h9).symm rfl) dX11_orderTold_62
    · skip
      refine lv_aload_n X.1 X.2.1 dX11_orderTold_20 rfl (lv_at hl 0 rfl) ?_
      refine g11_3 X I (k := 0) (by decide) rfl lf_X11_35 dX11_orderTold_21 ?_
      refine lv_iload_n X.1 X.2.1 dX11_orderTold_24 rfl (lv_at hl 3 rfl) ?_
      refine r_ei I (r_runV X I pk_X8_toldGrievance (c8_toldGrievance l G (k := 10) ⟨by decide, rfl, rfl, rfl⟩ _ _ _) lm_X11_435 (by decide) (cl_8 rfl) rfl rfl rfl hl.1 rfl (Nat.le_of_ble_eq_true rfl) dX11_orderTold_25 ⟨Nat.le_of_ble_eq_true rfl, Nat.le_of_ble_eq_true rfl⟩ ⟨Nat.le_refl 0, Nat.le_refl 0⟩) (fun H locs I => ?_)
      refine lv_iload_n X.1 X.2.1 dX11_orderTold_28 rfl (lv_at hl 3 rfl) ?_
      refine lv_iload_n X.1 X.2.1 dX11_orderTold_29 rfl (lv_at hl 1 rfl) ?_
      refine lv_icmp_ne (tgt := 37) X.1 X.2.1 dX11_orderTold_30 (by decide) (fun c_2 => ?_) (fun c_2 => ?_)
      · skip
        refine lv_iconst (v := 0) X.1 X.2.1 dX11_orderTold_37 (by decide) ?_
        refine lv_iadd X.1 X.2.1 dX11_orderTold_38 ?_
        refine lv_istore (lv' := [(4, .int _), (0, .ref _), (1, .int _), (2, .int _), (3, .int _)]) X.1 X.2.1 dX11_orderTold_39 hl (by decide) rfl (fun ls hl => ?_)
        refine lv_aload_n X.1 X.2.1 dX11_orderTold_41 rfl (lv_at hl 1 rfl) ?_
        refine g11_9 X I (k := 0) (by decide) rfl lf_X11_79 dX11_orderTold_42 ?_
        refine lv_iload_n X.1 X.2.1 dX11_orderTold_45 rfl (lv_at hl 4 rfl) ?_
        refine lv_bipush (v := 30) X.1 X.2.1 dX11_orderTold_46 (by decide) ?_
        refine lv_iload X.1 X.2.1 dX11_orderTold_48 (lv_at hl 0 rfl) ?_
        refine r_mmin X hl.1 lm_X11_286 ls_J9_min_7cf53 ln_J9 lc_J9_min_7cf53 (Nat.le_of_ble_eq_true rfl) (Nat.le_of_ble_eq_true rfl) (Nat.le_refl 0) (Nat.le_refl 0) dX11_orderTold_50 ?_
        refine r_ev I (r_runV X I pk_X6_put (c6_put l G _ _ _ _) lm_X11_342 (by decide) (cl_6 rfl) rfl rfl rfl hl.1 rfl (Nat.le_of_ble_eq_true rfl) dX11_orderTold_53 ⟨Nat.le_of_ble_eq_true rfl, Nat.le_of_ble_eq_true rfl⟩ ⟨Nat.le_refl 0, Nat.le_refl 0⟩) (fun H locs I => ?_)
        refine lv_iinc (v := _ + 1) (lv' := [(3, .int _), (4, .int _), (0, .ref _), (1, .int _), (2, .int _)]) X.1 X.2.1 dX11_orderTold_56 hl (k := 4) rfl rfl (by decide) rfl (fun ls hl => ?_)
        refine lv_goto (tgt := 9) X.1 X.2.1 dX11_orderTold_59 (by decide) ?_
        exact ih _ _ _ _ _ I (lv_sub hl [2, 3, 4, 0] rfl) (Nat.lt_of_lt_of_le (dec_c (by first | rfl | simp [f8_houses, f11_cell, w_f6_clear, w_f6_put, sp_n]) (up_dec c_1)) (Nat.le_of_lt_succ hm)) (hE.trans ((if_neg c_1).trans ((if_neg c_2).trans rfl)))
      · skip
        refine lv_iload_n X.1 X.2.1 dX11_orderTold_33 rfl (lv_at hl 2 rfl) ?_
        refine lv_goto (tgt := 38) X.1 X.2.1 dX11_orderTold_34 (by decide) ?_
        refine lv_iadd X.1 X.2.1 dX11_orderTold_38 ?_
        refine lv_istore (lv' := [(4, .int _), (0, .ref _), (1, .int _), (2, .int _), (3, .int _)]) X.1 X.2.1 dX11_orderTold_39 hl (by decide) rfl (fun ls hl => ?_)
        refine lv_aload_n X.1 X.2.1 dX11_orderTold_41 rfl (lv_at hl 1 rfl) ?_
        refine g11_9 X I (k := 0) (by decide) rfl lf_X11_79 dX11_orderTold_42 ?_
        refine lv_iload_n X.1 X.2.1 dX11_orderTold_45 rfl (lv_at hl 4 rfl) ?_
        refine lv_bipush (v := 30) X.1 X.2.1 dX11_orderTold_46 (by decide) ?_
        refine lv_iload X.1 X.2.1 dX11_orderTold_48 (lv_at hl 0 rfl) ?_
        refine r_mmin X hl.1 lm_X11_286 ls_J9_min_7cf53 ln_J9 lc_J9_min_7cf53 (Nat.le_of_ble_eq_true rfl) (Nat.le_of_ble_eq_true rfl) (Nat.le_refl 0) (Nat.le_refl 0) dX11_orderTold_50 ?_
        refine r_ev I (r_runV X I pk_X6_put (c6_put l G _ _ _ _) lm_X11_342 (by decide) (cl_6 rfl) rfl rfl rfl hl.1 rfl (Nat.le_of_ble_eq_true rfl) dX11_orderTold_53 ⟨Nat.le_of_ble_eq_true rfl, Nat.le_of_ble_eq_true rfl⟩ ⟨Nat.le_refl 0, Nat.le_refl 0⟩) (fun H locs I => ?_)
        refine lv_iinc (v := _ + 1) (lv' := [(3, .int _), (4, .int _), (0, .ref _), (1, .int _), (2, .int _)]) X.1 X.2.1 dX11_orderTold_56 hl (k := 4) rfl rfl (by decide) rfl (fun ls hl => ?_)
        refine lv_goto (tgt := 9) X.1 X.2.1 dX11_orderTold_59 (by decide) ?_
        exact ih _ _ _ _ _ I (lv_sub hl [2, 3, 4, 0] rfl) (Nat.lt_of_lt_of_le (dec_c (by first | rfl | simp [f8_houses, f11_cell, w_f6_clear, w_f6_put, sp_n]) (up_dec c_1)) (Nat.le_of_lt_succ hm)) (hE.trans ((if_neg c_1).trans ((if_pos c_2).trans rfl)))
set_option maxHeartbeats 4000000 in
set_option maxRecDepth 100000 in
theorem c11_orderTold (l : Launch) (G : GT) (σ : SI) (τ : SL) (x1 : Int32) (x2 : Int32) : Mc l yX11_orderTold cX11_orderTold 5 none 5 G [.ref (G.2.1 0), .int x1, .int x2] σ τ (Qv G (Ev (f11_orderTold σ x1 x2) τ)) := by
  refine m_start (by decide +kernel) (Nat.le_of_ble_eq_true rfl) rfl (fun p e s m args below meth c ls X I hl => ?_)
  have hl : lv_has ls 5 [(0, .ref (G.2.1 0)), (1, .int x1), (2, .int x2)] := hl
  obtain ⟨E, hE⟩ : ∃ E, E = (f11_orderTold σ x1 x2) := ⟨_, rfl⟩
  rw [← hE]
  refine lv_aload_n X.1 X.2.1 dX11_orderTold_0 rfl (lv_at hl 0 rfl) ?_
  refine g11_9 X I (k := 0) (by decide) rfl lf_X11_79 dX11_orderTold_1 ?_
  refine r_ev I (r_runV X I pk_X6_clear (c6_clear l G _ _) lm_X11_339 (by decide) (cl_6 rfl) rfl rfl rfl hl.1 rfl (Nat.le_of_ble_eq_true rfl) dX11_orderTold_4 ⟨Nat.le_of_ble_eq_true rfl, Nat.le_of_ble_eq_true rfl⟩ ⟨Nat.le_refl 0, Nat.le_refl 0⟩) (fun H locs I => ?_)
  refine lv_iconst (v := 0) X.1 X.2.1 dX11_orderTold_7 (by decide) ?_
  refine lv_istore_n (lv' := [(3, .int _), (0, .ref _), (1, .int _), (2, .int _)]) X.1 X.2.1 dX11_orderTold_8 rfl hl (by decide) rfl (fun ls hl => ?_)
  exact c11_orderTold_c9 X _ _ _ _ _ _ _ _ _ I (lv_sub hl [1, 2, 3, 0] rfl) (Nat.lt_succ_self _) (hE.trans (rfl))
def f11_isSeenSo_c8 (σ : SI) (x1 : Int32) (x2 : Int32) : Nat → Int32 → (Bool × SI)
  | 0, _ => (false, σ)
  | fu + 1, v3 => if (f10_seens σ) ≤ v3 then (true, σ) else (if (f6_houseAt σ (f10_seenPlace σ v3)) = (f10_seenHouse σ v3) then (if (1 : Int32) = (b2i (f10_seenIs σ v3)) then (f11_isSeenSo_c8 σ x1 x2 fu (v3 + 1)) else (false, σ)) else (if (0 : Int32) = (b2i (f10_seenIs σ v3)) then (f11_isSeenSo_c8 σ x1 x2 fu (v3 + 1)) else (false, σ)))
def f11_isSeenSo (σ : SI) (x1 : Int32) (x2 : Int32) : Bool × SI := let s0 := (f11_orderTold σ x1 x2); (f11_isSeenSo_c8 s0 x1 x2 ((Int32.toInt (f10_seens s0) - Int32.toInt (0 : Int32)).toNat + 1) (0 : Int32))
theorem w_f11_isSeenSo (σ : SI) (x1 : Int32) (x2 : Int32) (a : Nat) (h0 : a ≠ 36) (h1 : a ≠ 37) (h2 : a ≠ 38) : (f11_isSeenSo σ x1 x2).2 a = σ a := by
  unfold f11_isSeenSo
  (repeat' split) <;> (first | rfl | (simp only [sp_n, su_n, ne_eq, not_false_eq_true, h0, h1, h2, w_f11_orderTold]; done) | (simp [sp_n, su_n, ne_eq, not_false_eq_true, h0, h1, h2, w_f11_orderTold]; done))
set_option maxHeartbeats 4000000 in
set_option maxRecDepth 100000 in
theorem c11_isSeenSo_c8 {l : Launch} {p : Program} {e : Env} {s : State} {m : MethodId} {args : Array Value} {below : List Frame} {meth : Method} {c : Code} {G : GT} (X : CX p s m args meth c cX11_isSeenSo RX11 5 (some .boolean) G) {E : Bool × SI} (σ : SI) (τ : SL) (x1 : Int32) (x2 : Int32) : ∀ (fu : Nat) (v3 : Int32) (H : Heap) (locs : List Loc) (ls : Array Slot), IX G s H locs σ τ → lv_has ls 5 [(0, .ref (G.2.1 0)), (1, .int x1), (2, .int x2), (3, .int v3)] → (Int32.toInt (f10_seens σ) - Int32.toInt v3).toNat < fu → E = (f11_isSeenSo_c8 σ x1 x2 fu v3) → W p l e (rmN 6) s m args below meth c H locs 0 0 (MQ below ((Qi G (Ei (b2i E.1) E.2 τ)) s.heap.size) args s 0 0 (AW G s.heap.size)) (F0 m 8 ls []) := by
  intro fu
  induction fu with
  | zero =>
    intro v3 H locs ls I hl  hm hE
    exact absurd hm (Nat.not_lt_zero _)
  | succ fu ih =>
    intro v3 H locs ls I hl  hm hE
    refine lv_iload_n X.1 X.2.1 dX11_isSeenSo_8 rfl (lv_at hl 3 rfl) ?_
    refine lv_aload_n X.1 X.2.1 dX11_isSeenSo_9 rfl (lv_at hl 0 rfl) ?_
    refine g11_8 X I (k := 0) (by decide) rfl lf_X11_72 dX11_isSeenSo_10 ?_
    refine r_ei I (r_runV X I pk_X10_seens (c10_seens l G _ _) lm_X11_423 (by decide) (cl_10 rfl) rfl rfl rfl hl.1 rfl (Nat.le_of_ble_eq_true rfl) dX11_isSeenSo_13 ⟨Nat.le_of_ble_eq_true rfl, Nat.le_of_ble_eq_true rfl⟩ ⟨Nat.le_refl 0, Nat.le_refl 0⟩) (fun H locs I => ?_)
    refine lv_icmp_ge (tgt := 73) X.1 X.2.1 dX11_isSeenSo_16 (by decide) (fun c_1 => ?_) (fun c_1 => ?_)
    · skip
      refine lv_iconst (v := 1) X.1 X.2.1 dX11_isSeenSo_73 (by decide) ?_
      have h9 := hE.trans ((if_pos c_1).trans rfl)
      exact r_zret X I rfl (e_i (congrArg b2i (congrArg Prod.fst h9)).symm (congrArg Prod.snd h9).symm rfl) dX11_isSeenSo_74
    · skip
      refine lv_aload_n X.1 X.2.1 dX11_isSeenSo_19 rfl (lv_at hl 0 rfl) ?_
      refine g11_9 X I (k := 0) (by decide) rfl lf_X11_79 dX11_isSeenSo_20 ?_
      refine lv_aload_n X.1 X.2.1 dX11_isSeenSo_23 rfl (lv_at hl 0 rfl) ?_
      refine g11_8 X I (k := 0) (by decide) rfl lf_X11_72 dX11_isSeenSo_24 ?_
      refine lv_iload_n X.1 X.2.1 dX11_isSeenSo_27 rfl (lv_at hl 3 rfl) ?_
      refine r_ei I (r_runV X I pk_X10_seenPlace (c10_seenPlace l G _ _ _) lm_X11_426 (by decide) (cl_10 rfl) rfl rfl rfl hl.1 rfl (Nat.le_of_ble_eq_true rfl) dX11_isSeenSo_28 ⟨Nat.le_of_ble_eq_true rfl, Nat.le_of_ble_eq_true rfl⟩ ⟨Nat.le_refl 0, Nat.le_refl 0⟩) (fun H locs I => ?_)
      refine r_ei I (r_runV X I pk_X6_houseAt (c6_houseAt l G _ _ _) lm_X11_336 (by decide) (cl_6 rfl) rfl rfl rfl hl.1 rfl (Nat.le_of_ble_eq_true rfl) dX11_isSeenSo_31 ⟨Nat.le_of_ble_eq_true rfl, Nat.le_of_ble_eq_true rfl⟩ ⟨Nat.le_refl 0, Nat.le_refl 0⟩) (fun H locs I => ?_)
      refine lv_aload_n X.1 X.2.1 dX11_isSeenSo_34 rfl (lv_at hl 0 rfl) ?_
      refine g11_8 X I (k := 0) (by decide) rfl lf_X11_72 dX11_isSeenSo_35 ?_
      refine lv_iload_n X.1 X.2.1 dX11_isSeenSo_38 rfl (lv_at hl 3 rfl) ?_
      refine r_ei I (r_runV X I pk_X10_seenHouse (c10_seenHouse l G _ _ _) lm_X11_429 (by decide) (cl_10 rfl) rfl rfl rfl hl.1 rfl (Nat.le_of_ble_eq_true rfl) dX11_isSeenSo_39 ⟨Nat.le_of_ble_eq_true rfl, Nat.le_of_ble_eq_true rfl⟩ ⟨Nat.le_refl 0, Nat.le_refl 0⟩) (fun H locs I => ?_)
      refine lv_icmp_ne (tgt := 49) X.1 X.2.1 dX11_isSeenSo_42 (by decide) (fun c_2 => ?_) (fun c_2 => ?_)
      · skip
        refine lv_iconst (v := 0) X.1 X.2.1 dX11_isSeenSo_49 (by decide) ?_
        refine lv_istore (lv' := [(4, .int _), (0, .ref _), (1, .int _), (2, .int _), (3, .int _)]) X.1 X.2.1 dX11_isSeenSo_50 hl (by decide) rfl (fun ls hl => ?_)
        refine lv_iload X.1 X.2.1 dX11_isSeenSo_52 (lv_at hl 0 rfl) ?_
        refine lv_aload_n X.1 X.2.1 dX11_isSeenSo_54 rfl (lv_at hl 1 rfl) ?_
        refine g11_8 X I (k := 0) (by decide) rfl lf_X11_72 dX11_isSeenSo_55 ?_
        refine lv_iload_n X.1 X.2.1 dX11_isSeenSo_58 rfl (lv_at hl 4 rfl) ?_
        refine r_ei I (r_runV X I pk_X10_seenIs (c10_seenIs l G _ _ _) lm_X11_432 (by decide) (cl_10 rfl) rfl rfl rfl hl.1 rfl (Nat.le_of_ble_eq_true rfl) dX11_isSeenSo_59 ⟨Nat.le_of_ble_eq_true rfl, Nat.le_of_ble_eq_true rfl⟩ ⟨Nat.le_refl 0, Nat.le_refl 0⟩) (fun H locs I => ?_)
        refine lv_icmp_eq (tgt := 67) X.1 X.2.1 dX11_isSeenSo_62 (by decide) (fun c_3 => ?_) (fun c_3 => ?_)
        · skip
          refine lv_iinc (v := _ + 1) (lv' := [(3, .int _), (4, .int _), (0, .ref _), (1, .int _), (2, .int _)]) X.1 X.2.1 dX11_isSeenSo_67 hl (k := 4) rfl rfl (by decide) rfl (fun ls hl => ?_)
          refine lv_goto (tgt := 8) X.1 X.2.1 dX11_isSeenSo_70 (by decide) ?_
          exact ih _ _ _ _ I (lv_sub hl [2, 3, 4, 0] rfl) (Nat.lt_of_lt_of_le (up_dec c_1) (Nat.le_of_lt_succ hm)) (hE.trans ((if_neg c_1).trans ((if_neg c_2).trans ((if_pos c_3).trans rfl))))
        · skip
          refine lv_iconst (v := 0) X.1 X.2.1 dX11_isSeenSo_65 (by decide) ?_
          have h9 := hE.trans ((if_neg c_1).trans ((if_neg c_2).trans ((if_neg c_3).trans rfl)))
          exact r_zret X I rfl (e_i (congrArg b2i (congrArg Prod.fst h9)).symm (congrArg Prod.snd h9).symm rfl) dX11_isSeenSo_66
      · skip
        refine lv_iconst (v := 1) X.1 X.2.1 dX11_isSeenSo_45 (by decide) ?_
        refine lv_goto (tgt := 50) X.1 X.2.1 dX11_isSeenSo_46 (by decide) ?_
        refine lv_istore (lv' := [(4, .int _), (0, .ref _), (1, .int _), (2, .int _), (3, .int _)]) X.1 X.2.1 dX11_isSeenSo_50 hl (by decide) rfl (fun ls hl => ?_)
        refine lv_iload X.1 X.2.1 dX11_isSeenSo_52 (lv_at hl 0 rfl) ?_
        refine lv_aload_n X.1 X.2.1 dX11_isSeenSo_54 rfl (lv_at hl 1 rfl) ?_
        refine g11_8 X I (k := 0) (by decide) rfl lf_X11_72 dX11_isSeenSo_55 ?_
        refine lv_iload_n X.1 X.2.1 dX11_isSeenSo_58 rfl (lv_at hl 4 rfl) ?_
        refine r_ei I (r_runV X I pk_X10_seenIs (c10_seenIs l G _ _ _) lm_X11_432 (by decide) (cl_10 rfl) rfl rfl rfl hl.1 rfl (Nat.le_of_ble_eq_true rfl) dX11_isSeenSo_59 ⟨Nat.le_of_ble_eq_true rfl, Nat.le_of_ble_eq_true rfl⟩ ⟨Nat.le_refl 0, Nat.le_refl 0⟩) (fun H locs I => ?_)
        refine lv_icmp_eq (tgt := 67) X.1 X.2.1 dX11_isSeenSo_62 (by decide) (fun c_4 => ?_) (fun c_4 => ?_)
        · skip
          refine lv_iinc (v := _ + 1) (lv' := [(3, .int _), (4, .int _), (0, .ref _), (1, .int _), (2, .int _)]) X.1 X.2.1 dX11_isSeenSo_67 hl (k := 4) rfl rfl (by decide) rfl (fun ls hl => ?_)
          refine lv_goto (tgt := 8) X.1 X.2.1 dX11_isSeenSo_70 (by decide) ?_
          exact ih _ _ _ _ I (lv_sub hl [2, 3, 4, 0] rfl) (Nat.lt_of_lt_of_le (up_dec c_1) (Nat.le_of_lt_succ hm)) (hE.trans ((if_neg c_1).trans ((if_pos c_2).trans ((if_pos c_4).trans rfl))))
        · skip
          refine lv_iconst (v := 0) X.1 X.2.1 dX11_isSeenSo_65 (by decide) ?_
          have h9 := hE.trans ((if_neg c_1).trans ((if_pos c_2).trans ((if_neg c_4).trans rfl)))
          exact r_zret X I rfl (e_i (congrArg b2i (congrArg Prod.fst h9)).symm (congrArg Prod.snd h9).symm rfl) dX11_isSeenSo_66
set_option maxHeartbeats 4000000 in
set_option maxRecDepth 100000 in
theorem c11_isSeenSo (l : Launch) (G : GT) (σ : SI) (τ : SL) (x1 : Int32) (x2 : Int32) : Mc l yX11_isSeenSo cX11_isSeenSo 5 (some .boolean) 6 G [.ref (G.2.1 0), .int x1, .int x2] σ τ (Qi G (Ei (b2i (f11_isSeenSo σ x1 x2).1) (f11_isSeenSo σ x1 x2).2 τ)) := by
  refine m_start (by decide +kernel) (Nat.le_of_ble_eq_true rfl) rfl (fun p e s m args below meth c ls X I hl => ?_)
  have hl : lv_has ls 5 [(0, .ref (G.2.1 0)), (1, .int x1), (2, .int x2)] := hl
  obtain ⟨E, hE⟩ : ∃ E, E = (f11_isSeenSo σ x1 x2) := ⟨_, rfl⟩
  rw [← hE]
  refine lv_aload_n X.1 X.2.1 dX11_isSeenSo_0 rfl (lv_at hl 0 rfl) ?_
  refine lv_iload_n X.1 X.2.1 dX11_isSeenSo_1 rfl (lv_at hl 1 rfl) ?_
  refine lv_iload_n X.1 X.2.1 dX11_isSeenSo_2 rfl (lv_at hl 2 rfl) ?_
  refine r_ev I (r_runV X I pk_X11_orderTold (c11_orderTold l G _ _ _ _) lm_X11_420 (by decide) (cl_11 rfl) rfl rfl rfl hl.1 rfl (Nat.le_of_ble_eq_true rfl) dX11_isSeenSo_3 ⟨Nat.le_of_ble_eq_true rfl, Nat.le_of_ble_eq_true rfl⟩ ⟨Nat.le_refl 0, Nat.le_refl 0⟩) (fun H locs I => ?_)
  refine lv_iconst (v := 0) X.1 X.2.1 dX11_isSeenSo_6 (by decide) ?_
  refine lv_istore_n (lv' := [(3, .int _), (0, .ref _), (1, .int _), (2, .int _)]) X.1 X.2.1 dX11_isSeenSo_7 rfl hl (by decide) rfl (fun ls hl => ?_)
  exact c11_isSeenSo_c8 X _ _ _ _ _ _ _ _ _ I (lv_sub hl [1, 2, 3, 0] rfl) (Nat.lt_succ_self _) (hE.trans (rfl))
def f11_who_c28 (x1 : Int32) (x2 : Int32) : Nat → Int32 → Int32 → SI → (Int32 × SI)
  | 0, _, _, σ => (0, σ)
  | fu + 1, v3, v4, σ => if (9 : Int32) < v4 then (if x2 = (-1 : Int32) then (v3, σ) else ((-1 : Int32), σ)) else (if v4 < (f8_houses 10 σ) then (let r0 := (f11_isSeenSo σ v4 x1); if r0.1 = true then (if v3 = x2 then (v4, r0.2) else (f11_who_c28 x1 x2 fu (v3 + 1) (v4 + 1) r0.2)) else (f11_who_c28 x1 x2 fu v3 (v4 + 1) r0.2)) else (if v4 = (9 : Int32) then (let r1 := (f11_isSeenSo σ v4 x1); if r1.1 = true then (if v3 = x2 then (v4, r1.2) else (f11_who_c28 x1 x2 fu (v3 + 1) (v4 + 1) r1.2)) else (f11_who_c28 x1 x2 fu v3 (v4 + 1) r1.2)) else (f11_who_c28 x1 x2 fu v3 (v4 + 1) σ)))
def f11_who (σ : SI) (x1 : Int32) (x2 : Int32) : Int32 × SI := if (f8_isTold 10 σ) = true then (if x1 < (1 : Int32) then ((-1 : Int32), σ) else (if x1 ≤ (9 : Int32) then (f11_who_c28 x1 x2 ((Int32.toInt (9 : Int32) + 1 - Int32.toInt (0 : Int32)).toNat + 1) (0 : Int32) (0 : Int32) σ) else ((-1 : Int32), σ))) else ((-1 : Int32), σ)
theorem w_f11_who_c28 (x1 : Int32) (x2 : Int32) (a : Nat) (h0 : a ≠ 36) (h1 : a ≠ 37) (h2 : a ≠ 38) : ∀ (fu : Nat) (v3 : Int32) (v4 : Int32) (σ : SI), (f11_who_c28 x1 x2 fu v3 v4 σ).2 a = σ a := by
  intro fu
  induction fu with
  | zero => intros; rfl
  | succ fu ih =>
    intro v3 v4 σ
    unfold f11_who_c28
    (repeat' split) <;> (first | rfl | (simp only [sp_n, su_n, ne_eq, not_false_eq_true, h0, h1, h2, w_f11_isSeenSo, ih]; done) | (simp [sp_n, su_n, ne_eq, not_false_eq_true, h0, h1, h2, w_f11_isSeenSo, ih]; done))
theorem w_f11_who (σ : SI) (x1 : Int32) (x2 : Int32) (a : Nat) (h0 : a ≠ 36) (h1 : a ≠ 37) (h2 : a ≠ 38) : (f11_who σ x1 x2).2 a = σ a := by
  unfold f11_who
  (repeat' split) <;> (first | rfl | (simp only [sp_n, su_n, ne_eq, not_false_eq_true, h0, h1, h2, w_f11_isSeenSo, w_f11_who_c28]; done) | (simp [sp_n, su_n, ne_eq, not_false_eq_true, h0, h1, h2, w_f11_isSeenSo, w_f11_who_c28]; done))
set_option maxHeartbeats 4000000 in
set_option maxRecDepth 100000 in
theorem c11_who_c28 {l : Launch} {p : Program} {e : Env} {s : State} {m : MethodId} {args : Array Value} {below : List Frame} {meth : Method} {c : Code} {G : GT} (X : CX p s m args meth c cX11_who RX11 5 (some .int) G) {E : Int32 × SI} (τ : SL) (x1 : Int32) (x2 : Int32) : ∀ (fu : Nat) (v3 : Int32) (v4 : Int32) (σ : SI) (H : Heap) (locs : List Loc) (ls : Array Slot), IX G s H locs σ τ → lv_has ls 5 [(0, .ref (G.2.1 0)), (1, .int x1), (2, .int x2), (3, .int v3), (4, .int v4)] → (Int32.toInt (9 : Int32) + 1 - Int32.toInt v4).toNat < fu → E = (f11_who_c28 x1 x2 fu v3 v4 σ) → W p l e (rmN 7) s m args below meth c H locs 0 0 (MQ below ((Qi G (Ei E.1 E.2 τ)) s.heap.size) args s 0 0 (AW G s.heap.size)) (F0 m 28 ls []) := by
  intro fu
  induction fu with
  | zero =>
    intro v3 v4 σ H locs ls I hl  hm hE
    exact absurd hm (Nat.not_lt_zero _)
  | succ fu ih =>
    intro v3 v4 σ H locs ls I hl  hm hE
    refine lv_iload X.1 X.2.1 dX11_who_28 (lv_at hl 4 rfl) ?_
    refine lv_bipush (v := 9) X.1 X.2.1 dX11_who_30 (by decide) ?_
    refine lv_icmp_gt (tgt := 81) X.1 X.2.1 dX11_who_32 (by decide) (fun c_4 => ?_) (fun c_4 => ?_)
    · skip
      refine lv_iload_n X.1 X.2.1 dX11_who_81 rfl (lv_at hl 2 rfl) ?_
      refine lv_iconst (v := (-1)) X.1 X.2.1 dX11_who_82 (by decide) ?_
      refine lv_icmp_ne (tgt := 90) X.1 X.2.1 dX11_who_83 (by decide) (fun c_5 => ?_) (fun c_5 => ?_)
      · skip
        refine lv_iconst (v := (-1)) X.1 X.2.1 dX11_who_90 (by decide) ?_
        have h9 := hE.trans ((if_pos c_4).trans ((if_neg c_5).trans rfl))
        exact r_iret X I (e_i (congrArg Prod.fst h9).symm (congrArg Prod.snd h9).symm rfl) dX11_who_91
      · skip
        refine lv_iload_n X.1 X.2.1 dX11_who_86 rfl (lv_at hl 3 rfl) ?_
        refine lv_goto (tgt := 91) X.1 X.2.1 dX11_who_87 (by decide) ?_
        have h9 := hE.trans ((if_pos c_4).trans ((if_pos c_5).trans rfl))
        exact r_iret X I (e_i (congrArg Prod.fst h9).symm (congrArg Prod.snd h9).symm rfl) dX11_who_91
    · skip
      refine lv_iload X.1 X.2.1 dX11_who_35 (lv_at hl 4 rfl) ?_
      refine lv_aload_n X.1 X.2.1 dX11_who_37 rfl (lv_at hl 0 rfl) ?_
      refine g11_3 X I (k := 0) (by decide) rfl lf_X11_35 dX11_who_38 ?_
      refine r_ei I (r_runV X I pk_X8_houses (c8_houses l G (k := 10) ⟨by decide, rfl, rfl, rfl⟩ _ _) lm_X11_155 (by decide) (cl_8 rfl) rfl rfl rfl hl.1 rfl (Nat.le_of_ble_eq_true rfl) dX11_who_41 ⟨Nat.le_of_ble_eq_true rfl, Nat.le_of_ble_eq_true rfl⟩ ⟨Nat.le_refl 0, Nat.le_refl 0⟩) (fun H locs I => ?_)
      refine lv_icmp_lt (tgt := 54) X.1 X.2.1 dX11_who_44 (by decide) (fun c_6 => ?_) (fun c_6 => ?_)
      · skip
        refine lv_aload_n X.1 X.2.1 dX11_who_54 rfl (lv_at hl 0 rfl) ?_
        refine lv_iload X.1 X.2.1 dX11_who_55 (lv_at hl 4 rfl) ?_
        refine lv_iload_n X.1 X.2.1 dX11_who_57 rfl (lv_at hl 1 rfl) ?_
        refine r_ei I (r_runV X I pk_X11_isSeenSo (c11_isSeenSo l G _ _ _ _) lm_X11_417 (by decide) (cl_11 rfl) rfl rfl rfl hl.1 rfl (Nat.le_of_ble_eq_true rfl) dX11_who_58 ⟨Nat.le_of_ble_eq_true rfl, Nat.le_of_ble_eq_true rfl⟩ ⟨Nat.le_refl 0, Nat.le_refl 0⟩) (fun H locs I => ?_)
        refine lv_if_eq (tgt := 75) X.1 X.2.1 dX11_who_61 (by decide) (fun c_7 => ?_) (fun c_7 => ?_)
        · skip
          refine lv_iinc (v := _ + 1) (lv' := [(4, .int _), (0, .ref _), (1, .int _), (2, .int _), (3, .int _)]) X.1 X.2.1 dX11_who_75 hl (k := 4) rfl rfl (by decide) rfl (fun ls hl => ?_)
          refine lv_goto (tgt := 28) X.1 X.2.1 dX11_who_78 (by decide) ?_
          exact ih _ _ _ _ _ _ I (lv_sub hl [1, 2, 3, 4, 0] rfl) (Nat.lt_of_lt_of_le (up_decE (by decide) c_4) (Nat.le_of_lt_succ hm)) (hE.trans ((if_neg c_4).trans ((if_pos c_6).trans ((if_neg (b2i_n c_7)).trans rfl))))
        · skip
          refine lv_iload_n X.1 X.2.1 dX11_who_64 rfl (lv_at hl 3 rfl) ?_
          refine lv_iload_n X.1 X.2.1 dX11_who_65 rfl (lv_at hl 2 rfl) ?_
          refine lv_icmp_ne (tgt := 72) X.1 X.2.1 dX11_who_66 (by decide) (fun c_8 => ?_) (fun c_8 => ?_)
          · skip
            refine lv_iinc (v := _ + 1) (lv' := [(3, .int _), (0, .ref _), (1, .int _), (2, .int _), (4, .int _)]) X.1 X.2.1 dX11_who_72 hl (k := 3) rfl rfl (by decide) rfl (fun ls hl => ?_)
            refine lv_iinc (v := _ + 1) (lv' := [(4, .int _), (3, .int _), (0, .ref _), (1, .int _), (2, .int _)]) X.1 X.2.1 dX11_who_75 hl (k := 4) rfl rfl (by decide) rfl (fun ls hl => ?_)
            refine lv_goto (tgt := 28) X.1 X.2.1 dX11_who_78 (by decide) ?_
            exact ih _ _ _ _ _ _ I (lv_sub hl [2, 3, 4, 1, 0] rfl) (Nat.lt_of_lt_of_le (up_decE (by decide) c_4) (Nat.le_of_lt_succ hm)) (hE.trans ((if_neg c_4).trans ((if_pos c_6).trans ((if_pos (b2i_y c_7)).trans ((if_neg c_8).trans rfl)))))
          · skip
            refine lv_iload X.1 X.2.1 dX11_who_69 (lv_at hl 4 rfl) ?_
            have h9 := hE.trans ((if_neg c_4).trans ((if_pos c_6).trans ((if_pos (b2i_y c_7)).trans ((if_pos c_8).trans rfl))))
            exact r_iret X I (e_i (congrArg Prod.fst h9).symm (congrArg Prod.snd h9).symm rfl) dX11_who_71
      · skip
        refine lv_iload X.1 X.2.1 dX11_who_47 (lv_at hl 4 rfl) ?_
        refine lv_bipush (v := 9) X.1 X.2.1 dX11_who_49 (by decide) ?_
        refine lv_icmp_ne (tgt := 75) X.1 X.2.1 dX11_who_51 (by decide) (fun c_9 => ?_) (fun c_9 => ?_)
        · skip
          refine lv_iinc (v := _ + 1) (lv' := [(4, .int _), (0, .ref _), (1, .int _), (2, .int _), (3, .int _)]) X.1 X.2.1 dX11_who_75 hl (k := 4) rfl rfl (by decide) rfl (fun ls hl => ?_)
          refine lv_goto (tgt := 28) X.1 X.2.1 dX11_who_78 (by decide) ?_
          exact ih _ _ _ _ _ _ I (lv_sub hl [1, 2, 3, 4, 0] rfl) (Nat.lt_of_lt_of_le (up_decE (by decide) c_4) (Nat.le_of_lt_succ hm)) (hE.trans ((if_neg c_4).trans ((if_neg c_6).trans ((if_neg c_9).trans rfl))))
        · skip
          refine lv_aload_n X.1 X.2.1 dX11_who_54 rfl (lv_at hl 0 rfl) ?_
          refine lv_iload X.1 X.2.1 dX11_who_55 (lv_at hl 4 rfl) ?_
          refine lv_iload_n X.1 X.2.1 dX11_who_57 rfl (lv_at hl 1 rfl) ?_
          refine r_ei I (r_runV X I pk_X11_isSeenSo (c11_isSeenSo l G _ _ _ _) lm_X11_417 (by decide) (cl_11 rfl) rfl rfl rfl hl.1 rfl (Nat.le_of_ble_eq_true rfl) dX11_who_58 ⟨Nat.le_of_ble_eq_true rfl, Nat.le_of_ble_eq_true rfl⟩ ⟨Nat.le_refl 0, Nat.le_refl 0⟩) (fun H locs I => ?_)
          refine lv_if_eq (tgt := 75) X.1 X.2.1 dX11_who_61 (by decide) (fun c_10 => ?_) (fun c_10 => ?_)
          · skip
            refine lv_iinc (v := _ + 1) (lv' := [(4, .int _), (0, .ref _), (1, .int _), (2, .int _), (3, .int _)]) X.1 X.2.1 dX11_who_75 hl (k := 4) rfl rfl (by decide) rfl (fun ls hl => ?_)
            refine lv_goto (tgt := 28) X.1 X.2.1 dX11_who_78 (by decide) ?_
            exact ih _ _ _ _ _ _ I (lv_sub hl [1, 2, 3, 4, 0] rfl) (Nat.lt_of_lt_of_le (up_decE (by decide) c_4) (Nat.le_of_lt_succ hm)) (hE.trans ((if_neg c_4).trans ((if_neg c_6).trans ((if_pos c_9).trans ((if_neg (b2i_n c_10)).trans rfl)))))
          · skip
            refine lv_iload_n X.1 X.2.1 dX11_who_64 rfl (lv_at hl 3 rfl) ?_
            refine lv_iload_n X.1 X.2.1 dX11_who_65 rfl (lv_at hl 2 rfl) ?_
            refine lv_icmp_ne (tgt := 72) X.1 X.2.1 dX11_who_66 (by decide) (fun c_11 => ?_) (fun c_11 => ?_)
            · skip
              refine lv_iinc (v := _ + 1) (lv' := [(3, .int _), (0, .ref _), (1, .int _), (2, .int _), (4, .int _)]) X.1 X.2.1 dX11_who_72 hl (k := 3) rfl rfl (by decide) rfl (fun ls hl => ?_)
              refine lv_iinc (v := _ + 1) (lv' := [(4, .int _), (3, .int _), (0, .ref _), (1, .int _), (2, .int _)]) X.1 X.2.1 dX11_who_75 hl (k := 4) rfl rfl (by decide) rfl (fun ls hl => ?_)
              refine lv_goto (tgt := 28) X.1 X.2.1 dX11_who_78 (by decide) ?_
              exact ih _ _ _ _ _ _ I (lv_sub hl [2, 3, 4, 1, 0] rfl) (Nat.lt_of_lt_of_le (up_decE (by decide) c_4) (Nat.le_of_lt_succ hm)) (hE.trans ((if_neg c_4).trans ((if_neg c_6).trans ((if_pos c_9).trans ((if_pos (b2i_y c_10)).trans ((if_neg c_11).trans rfl))))))
            · skip
              refine lv_iload X.1 X.2.1 dX11_who_69 (lv_at hl 4 rfl) ?_
              have h9 := hE.trans ((if_neg c_4).trans ((if_neg c_6).trans ((if_pos c_9).trans ((if_pos (b2i_y c_10)).trans ((if_pos c_11).trans rfl)))))
              exact r_iret X I (e_i (congrArg Prod.fst h9).symm (congrArg Prod.snd h9).symm rfl) dX11_who_71
set_option maxHeartbeats 4000000 in
set_option maxRecDepth 100000 in
theorem c11_who (l : Launch) (G : GT) (σ : SI) (τ : SL) (x1 : Int32) (x2 : Int32) : Mc l yX11_who cX11_who 5 (some .int) 7 G [.ref (G.2.1 0), .int x1, .int x2] σ τ (Qi G (Ei (f11_who σ x1 x2).1 (f11_who σ x1 x2).2 τ)) := by
  refine m_start (by decide +kernel) (Nat.le_of_ble_eq_true rfl) rfl (fun p e s m args below meth c ls X I hl => ?_)
  have hl : lv_has ls 5 [(0, .ref (G.2.1 0)), (1, .int x1), (2, .int x2)] := hl
  obtain ⟨E, hE⟩ : ∃ E, E = (f11_who σ x1 x2) := ⟨_, rfl⟩
  rw [← hE]
  refine lv_aload_n X.1 X.2.1 dX11_who_0 rfl (lv_at hl 0 rfl) ?_
  refine g11_3 X I (k := 0) (by decide) rfl lf_X11_35 dX11_who_1 ?_
  refine r_ei I (r_runV X I pk_X8_isTold (c8_isTold l G (k := 10) ⟨by decide, rfl, rfl, rfl⟩ _ _) lm_X11_158 (by decide) (cl_8 rfl) rfl rfl rfl hl.1 rfl (Nat.le_of_ble_eq_true rfl) dX11_who_4 ⟨Nat.le_of_ble_eq_true rfl, Nat.le_of_ble_eq_true rfl⟩ ⟨Nat.le_refl 0, Nat.le_refl 0⟩) (fun H locs I => ?_)
  refine lv_if_eq (tgt := 21) X.1 X.2.1 dX11_who_7 (by decide) (fun c_1 => ?_) (fun c_1 => ?_)
  · skip
    refine lv_iconst (v := (-1)) X.1 X.2.1 dX11_who_21 (by decide) ?_
    have h9 := hE.trans ((if_neg (b2i_n c_1)).trans rfl)
    exact r_iret X I (e_i (congrArg Prod.fst h9).symm (congrArg Prod.snd h9).symm rfl) dX11_who_22
  · skip
    refine lv_iload_n X.1 X.2.1 dX11_who_10 rfl (lv_at hl 1 rfl) ?_
    refine lv_iconst (v := 1) X.1 X.2.1 dX11_who_11 (by decide) ?_
    refine lv_icmp_lt (tgt := 21) X.1 X.2.1 dX11_who_12 (by decide) (fun c_2 => ?_) (fun c_2 => ?_)
    · skip
      refine lv_iconst (v := (-1)) X.1 X.2.1 dX11_who_21 (by decide) ?_
      have h9 := hE.trans ((if_pos (b2i_y c_1)).trans ((if_pos c_2).trans rfl))
      exact r_iret X I (e_i (congrArg Prod.fst h9).symm (congrArg Prod.snd h9).symm rfl) dX11_who_22
    · skip
      refine lv_iload_n X.1 X.2.1 dX11_who_15 rfl (lv_at hl 1 rfl) ?_
      refine lv_bipush (v := 9) X.1 X.2.1 dX11_who_16 (by decide) ?_
      refine lv_icmp_le (tgt := 23) X.1 X.2.1 dX11_who_18 (by decide) (fun c_3 => ?_) (fun c_3 => ?_)
      · skip
        refine lv_iconst (v := 0) X.1 X.2.1 dX11_who_23 (by decide) ?_
        refine lv_istore_n (lv' := [(3, .int _), (0, .ref _), (1, .int _), (2, .int _)]) X.1 X.2.1 dX11_who_24 rfl hl (by decide) rfl (fun ls hl => ?_)
        refine lv_iconst (v := 0) X.1 X.2.1 dX11_who_25 (by decide) ?_
        refine lv_istore (lv' := [(4, .int _), (3, .int _), (0, .ref _), (1, .int _), (2, .int _)]) X.1 X.2.1 dX11_who_26 hl (by decide) rfl (fun ls hl => ?_)
        exact c11_who_c28 X _ _ _ _ _ _ _ _ _ _ I (lv_sub hl [2, 3, 4, 1, 0] rfl) (Nat.lt_succ_self _) (hE.trans ((if_pos (b2i_y c_1)).trans ((if_neg c_2).trans ((if_pos c_3).trans rfl))))
      · skip
        refine lv_iconst (v := (-1)) X.1 X.2.1 dX11_who_21 (by decide) ?_
        have h9 := hE.trans ((if_pos (b2i_y c_1)).trans ((if_neg c_2).trans ((if_neg c_3).trans rfl)))
        exact r_iret X I (e_i (congrArg Prod.fst h9).symm (congrArg Prod.snd h9).symm rfl) dX11_who_22
def f11_odds (σ : SI) (x1 : Int32) (x2 : Int32) : Int32 × SI := if (f8_isTold 10 σ) = true then (if x1 < (0 : Int32) then ((-1 : Int32), σ) else (if (7 : Int32) < x1 then ((-1 : Int32), σ) else (if x2 < (0 : Int32) then ((-1 : Int32), σ) else (if x2 ≤ (100 : Int32) then (let s0 := (f11_orderNow σ); if x1 ≤ (f6_size s0) then (let r1 := (f11_parts s0 (0 : Int32) x1 x2 (s0 24 2) (1000000000 : Int64)); ((Int64.toInt32 r1.1), r1.2)) else ((0 : Int32), s0)) else ((-1 : Int32), σ))))) else ((-1 : Int32), σ)
theorem w_f11_odds (σ : SI) (x1 : Int32) (x2 : Int32) (a : Nat) (h0 : a ≠ 13) (h1 : a ≠ 15) (h2 : a ≠ 36) (h3 : a ≠ 37) (h4 : a ≠ 38) : (f11_odds σ x1 x2).2 a = σ a := by
  unfold f11_odds
  (repeat' split) <;> (first | rfl | (simp only [sp_n, su_n, ne_eq, not_false_eq_true, h0, h1, h2, h3, h4, w_f11_orderNow, w_f11_parts]; done) | (simp [sp_n, su_n, ne_eq, not_false_eq_true, h0, h1, h2, h3, h4, w_f11_orderNow, w_f11_parts]; done))
set_option maxHeartbeats 4000000 in
set_option maxRecDepth 100000 in
theorem c11_odds (l : Launch) (G : GT) (σ : SI) (τ : SL) (x1 : Int32) (x2 : Int32) : Mc l yX11_odds cX11_odds 3 (some .int) 37 G [.ref (G.2.1 0), .int x1, .int x2] σ τ (Qi G (Ei (f11_odds σ x1 x2).1 (f11_odds σ x1 x2).2 τ)) := by
  refine m_start (by decide +kernel) (Nat.le_of_ble_eq_true rfl) rfl (fun p e s m args below meth c ls X I hl => ?_)
  have hl : lv_has ls 3 [(0, .ref (G.2.1 0)), (1, .int x1), (2, .int x2)] := hl
  obtain ⟨E, hE⟩ : ∃ E, E = (f11_odds σ x1 x2) := ⟨_, rfl⟩
  rw [← hE]
  refine lv_aload_n X.1 X.2.1 dX11_odds_0 rfl (lv_at hl 0 rfl) ?_
  refine g11_3 X I (k := 0) (by decide) rfl lf_X11_35 dX11_odds_1 ?_
  refine r_ei I (r_runV X I pk_X8_isTold (c8_isTold l G (k := 10) ⟨by decide, rfl, rfl, rfl⟩ _ _) lm_X11_158 (by decide) (cl_8 rfl) rfl rfl rfl hl.1 rfl (Nat.le_of_ble_eq_true rfl) dX11_odds_4 ⟨Nat.le_of_ble_eq_true rfl, Nat.le_of_ble_eq_true rfl⟩ ⟨Nat.le_refl 0, Nat.le_refl 0⟩) (fun H locs I => ?_)
  refine lv_if_eq (tgt := 30) X.1 X.2.1 dX11_odds_7 (by decide) (fun c_1 => ?_) (fun c_1 => ?_)
  · skip
    refine lv_iconst (v := (-1)) X.1 X.2.1 dX11_odds_30 (by decide) ?_
    have h9 := hE.trans ((if_neg (b2i_n c_1)).trans rfl)
    exact r_iret X I (e_i (congrArg Prod.fst h9).symm (congrArg Prod.snd h9).symm rfl) dX11_odds_31
  · skip
    refine lv_iload_n X.1 X.2.1 dX11_odds_10 rfl (lv_at hl 1 rfl) ?_
    refine lv_if_lt (tgt := 30) X.1 X.2.1 dX11_odds_11 (by decide) (fun c_2 => ?_) (fun c_2 => ?_)
    · skip
      refine lv_iconst (v := (-1)) X.1 X.2.1 dX11_odds_30 (by decide) ?_
      have h9 := hE.trans ((if_pos (b2i_y c_1)).trans ((if_pos c_2).trans rfl))
      exact r_iret X I (e_i (congrArg Prod.fst h9).symm (congrArg Prod.snd h9).symm rfl) dX11_odds_31
    · skip
      refine lv_iload_n X.1 X.2.1 dX11_odds_14 rfl (lv_at hl 1 rfl) ?_
      refine lv_bipush (v := 7) X.1 X.2.1 dX11_odds_15 (by decide) ?_
      refine lv_icmp_gt (tgt := 30) X.1 X.2.1 dX11_odds_17 (by decide) (fun c_3 => ?_) (fun c_3 => ?_)
      · skip
        refine lv_iconst (v := (-1)) X.1 X.2.1 dX11_odds_30 (by decide) ?_
        have h9 := hE.trans ((if_pos (b2i_y c_1)).trans ((if_neg c_2).trans ((if_pos c_3).trans rfl)))
        exact r_iret X I (e_i (congrArg Prod.fst h9).symm (congrArg Prod.snd h9).symm rfl) dX11_odds_31
      · skip
        refine lv_iload_n X.1 X.2.1 dX11_odds_20 rfl (lv_at hl 2 rfl) ?_
        refine lv_if_lt (tgt := 30) X.1 X.2.1 dX11_odds_21 (by decide) (fun c_4 => ?_) (fun c_4 => ?_)
        · skip
          refine lv_iconst (v := (-1)) X.1 X.2.1 dX11_odds_30 (by decide) ?_
          have h9 := hE.trans ((if_pos (b2i_y c_1)).trans ((if_neg c_2).trans ((if_neg c_3).trans ((if_pos c_4).trans rfl))))
          exact r_iret X I (e_i (congrArg Prod.fst h9).symm (congrArg Prod.snd h9).symm rfl) dX11_odds_31
        · skip
          refine lv_iload_n X.1 X.2.1 dX11_odds_24 rfl (lv_at hl 2 rfl) ?_
          refine lv_bipush (v := 100) X.1 X.2.1 dX11_odds_25 (by decide) ?_
          refine lv_icmp_le (tgt := 32) X.1 X.2.1 dX11_odds_27 (by decide) (fun c_5 => ?_) (fun c_5 => ?_)
          · skip
            refine lv_aload_n X.1 X.2.1 dX11_odds_32 rfl (lv_at hl 0 rfl) ?_
            refine r_ev I (r_runV X I pk_X11_orderNow (c11_orderNow l G _ _) lm_X11_329 (by decide) (cl_11 rfl) rfl rfl rfl hl.1 rfl (Nat.le_of_ble_eq_true rfl) dX11_odds_33 ⟨Nat.le_of_ble_eq_true rfl, Nat.le_of_ble_eq_true rfl⟩ ⟨Nat.le_refl 0, Nat.le_refl 0⟩) (fun H locs I => ?_)
            refine lv_iload_n X.1 X.2.1 dX11_odds_36 rfl (lv_at hl 1 rfl) ?_
            refine lv_aload_n X.1 X.2.1 dX11_odds_37 rfl (lv_at hl 0 rfl) ?_
            refine g11_9 X I (k := 0) (by decide) rfl lf_X11_79 dX11_odds_38 ?_
            refine r_ei I (r_runV X I pk_X6_size (c6_size l G _ _) lm_X11_332 (by decide) (cl_6 rfl) rfl rfl rfl hl.1 rfl (Nat.le_of_ble_eq_true rfl) dX11_odds_41 ⟨Nat.le_of_ble_eq_true rfl, Nat.le_of_ble_eq_true rfl⟩ ⟨Nat.le_refl 0, Nat.le_refl 0⟩) (fun H locs I => ?_)
            refine lv_icmp_le (tgt := 51) X.1 X.2.1 dX11_odds_44 (by decide) (fun c_6 => ?_) (fun c_6 => ?_)
            · skip
              refine lv_aload_n X.1 X.2.1 dX11_odds_51 rfl (lv_at hl 0 rfl) ?_
              refine lv_iconst (v := 0) X.1 X.2.1 dX11_odds_52 (by decide) ?_
              refine lv_iload_n X.1 X.2.1 dX11_odds_53 rfl (lv_at hl 1 rfl) ?_
              refine lv_iload_n X.1 X.2.1 dX11_odds_54 rfl (lv_at hl 2 rfl) ?_
              refine lv_aload_n X.1 X.2.1 dX11_odds_55 rfl (lv_at hl 0 rfl) ?_
              refine g11_5 X I (k := 0) (by decide) rfl lf_X11_49 dX11_odds_56 ?_
              refine g0_2 X I (k := 24) (by decide) rfl lf_X11_216 dX11_odds_59 ?_
              refine lv_ldc2 X.1 X.2.1 (v := 1000000000) X.2.2.2.2.1 (X.2.2.2.1 _ lq_X11_438) dX11_odds_62 ?_
              refine r_el I (r_runV X I pk_X11_partsThrough (c11_parts l G _ _ _ _ _ _ _ (by decide)) lm_X11_440 (by decide) (cl_11 rfl) rfl rfl rfl hl.1 rfl (Nat.le_of_ble_eq_true rfl) dX11_odds_65 ⟨Nat.le_of_ble_eq_true rfl, Nat.le_of_ble_eq_true rfl⟩ ⟨Nat.le_refl 0, Nat.le_refl 0⟩) (fun H locs I => ?_)
              refine lv_l2i X.1 X.2.1 dX11_odds_68 rfl ?_
              have h9 := hE.trans ((if_pos (b2i_y c_1)).trans ((if_neg c_2).trans ((if_neg c_3).trans ((if_neg c_4).trans ((if_pos c_5).trans ((if_pos c_6).trans rfl))))))
              exact r_iret X I (e_i (congrArg Prod.fst h9).symm (congrArg Prod.snd h9).symm rfl) dX11_odds_69
            · skip
              refine lv_iconst (v := 0) X.1 X.2.1 dX11_odds_47 (by decide) ?_
              refine lv_goto (tgt := 69) X.1 X.2.1 dX11_odds_48 (by decide) ?_
              have h9 := hE.trans ((if_pos (b2i_y c_1)).trans ((if_neg c_2).trans ((if_neg c_3).trans ((if_neg c_4).trans ((if_pos c_5).trans ((if_neg c_6).trans rfl))))))
              exact r_iret X I (e_i (congrArg Prod.fst h9).symm (congrArg Prod.snd h9).symm rfl) dX11_odds_69
          · skip
            refine lv_iconst (v := (-1)) X.1 X.2.1 dX11_odds_30 (by decide) ?_
            have h9 := hE.trans ((if_pos (b2i_y c_1)).trans ((if_neg c_2).trans ((if_neg c_3).trans ((if_neg c_4).trans ((if_neg c_5).trans rfl)))))
            exact r_iret X I (e_i (congrArg Prod.fst h9).symm (congrArg Prod.snd h9).symm rfl) dX11_odds_31
def f11_grievancesIn_c4 (σ : SI) (x1 : Int32) : Nat → Int32 → Int32 → Int32
  | 0, _, _ => 0
  | fu + 1, v2, v3 => if (f8_houses 10 σ) ≤ v3 then v2 else (f11_grievancesIn_c4 σ x1 fu (v2 + (f11_grown σ v3 x1)) (v3 + 1))
def f11_grievancesIn (σ : SI) (x1 : Int32) : Int32 := (f11_grievancesIn_c4 σ x1 ((Int32.toInt (f8_houses 10 σ) - Int32.toInt (0 : Int32)).toNat + 1) (0 : Int32) (0 : Int32))
set_option maxHeartbeats 4000000 in
set_option maxRecDepth 100000 in
theorem c11_grievancesIn_c4 {l : Launch} {p : Program} {e : Env} {s : State} {m : MethodId} {args : Array Value} {below : List Frame} {meth : Method} {c : Code} {G : GT} (X : CX p s m args meth c cX11_grievancesIn RX11 4 (some .int) G) {E : Int32} (σ : SI) (τ : SL) (x1 : Int32) : ∀ (fu : Nat) (v2 : Int32) (v3 : Int32) (H : Heap) (locs : List Loc) (ls : Array Slot), IX G s H locs σ τ → lv_has ls 4 [(0, .ref (G.2.1 0)), (1, .int x1), (2, .int v2), (3, .int v3)] → (Int32.toInt (f8_houses 10 σ) - Int32.toInt v3).toNat < fu → E = (f11_grievancesIn_c4 σ x1 fu v2 v3) → W p l e (rmN 6) s m args below meth c H locs 0 0 (MQ below ((Qi G (Ei E σ τ)) s.heap.size) args s 0 0 (AW G s.heap.size)) (F0 m 4 ls []) := by
  intro fu
  induction fu with
  | zero =>
    intro v2 v3 H locs ls I hl  hm hE
    exact absurd hm (Nat.not_lt_zero _)
  | succ fu ih =>
    intro v2 v3 H locs ls I hl  hm hE
    refine lv_iload_n X.1 X.2.1 dX11_grievancesIn_4 rfl (lv_at hl 3 rfl) ?_
    refine lv_aload_n X.1 X.2.1 dX11_grievancesIn_5 rfl (lv_at hl 0 rfl) ?_
    refine g11_3 X I (k := 0) (by decide) rfl lf_X11_35 dX11_grievancesIn_6 ?_
    refine r_ei I (r_runV X I pk_X8_houses (c8_houses l G (k := 10) ⟨by decide, rfl, rfl, rfl⟩ _ _) lm_X11_155 (by decide) (cl_8 rfl) rfl rfl rfl hl.1 rfl (Nat.le_of_ble_eq_true rfl) dX11_grievancesIn_9 ⟨Nat.le_of_ble_eq_true rfl, Nat.le_of_ble_eq_true rfl⟩ ⟨Nat.le_refl 0, Nat.le_refl 0⟩) (fun H locs I => ?_)
    refine lv_icmp_ge (tgt := 30) X.1 X.2.1 dX11_grievancesIn_12 (by decide) (fun c_1 => ?_) (fun c_1 => ?_)
    · skip
      refine lv_iload_n X.1 X.2.1 dX11_grievancesIn_30 rfl (lv_at hl 2 rfl) ?_
      have h9 := hE.trans ((if_pos c_1).trans rfl)
      exact r_iret X I (e_i (h9).symm rfl rfl) dX11_grievancesIn_31
    · skip
      refine lv_iload_n X.1 X.2.1 dX11_grievancesIn_15 rfl (lv_at hl 2 rfl) ?_
      refine lv_aload_n X.1 X.2.1 dX11_grievancesIn_16 rfl (lv_at hl 0 rfl) ?_
      refine lv_iload_n X.1 X.2.1 dX11_grievancesIn_17 rfl (lv_at hl 3 rfl) ?_
      refine lv_iload_n X.1 X.2.1 dX11_grievancesIn_18 rfl (lv_at hl 1 rfl) ?_
      refine r_ei I (r_runV X I pk_X11_grown (c11_grown l G _ _ _ _) lm_X11_283 (by decide) (cl_11 rfl) rfl rfl rfl hl.1 rfl (Nat.le_of_ble_eq_true rfl) dX11_grievancesIn_19 ⟨Nat.le_of_ble_eq_true rfl, Nat.le_of_ble_eq_true rfl⟩ ⟨Nat.le_refl 0, Nat.le_refl 0⟩) (fun H locs I => ?_)
      refine lv_iadd X.1 X.2.1 dX11_grievancesIn_22 ?_
      refine lv_istore_n (lv' := [(2, .int _), (0, .ref _), (1, .int _), (3, .int _)]) X.1 X.2.1 dX11_grievancesIn_23 rfl hl (by decide) rfl (fun ls hl => ?_)
      refine lv_iinc (v := _ + 1) (lv' := [(3, .int _), (2, .int _), (0, .ref _), (1, .int _)]) X.1 X.2.1 dX11_grievancesIn_24 hl (k := 3) rfl rfl (by decide) rfl (fun ls hl => ?_)
      refine lv_goto (tgt := 4) X.1 X.2.1 dX11_grievancesIn_27 (by decide) ?_
      exact ih _ _ _ _ _ I (lv_sub hl [2, 3, 1, 0] rfl) (Nat.lt_of_lt_of_le (up_dec c_1) (Nat.le_of_lt_succ hm)) (hE.trans ((if_neg c_1).trans rfl))
set_option maxHeartbeats 4000000 in
set_option maxRecDepth 100000 in
theorem c11_grievancesIn (l : Launch) (G : GT) (σ : SI) (τ : SL) (x1 : Int32) : Mc l yX11_grievancesIn cX11_grievancesIn 4 (some .int) 6 G [.ref (G.2.1 0), .int x1] σ τ (Qi G (Ei (f11_grievancesIn σ x1) σ τ)) := by
  refine m_start (by decide +kernel) (Nat.le_of_ble_eq_true rfl) rfl (fun p e s m args below meth c ls X I hl => ?_)
  have hl : lv_has ls 4 [(0, .ref (G.2.1 0)), (1, .int x1)] := hl
  obtain ⟨E, hE⟩ : ∃ E, E = (f11_grievancesIn σ x1) := ⟨_, rfl⟩
  rw [← hE]
  refine lv_iconst (v := 0) X.1 X.2.1 dX11_grievancesIn_0 (by decide) ?_
  refine lv_istore_n (lv' := [(2, .int _), (0, .ref _), (1, .int _)]) X.1 X.2.1 dX11_grievancesIn_1 rfl hl (by decide) rfl (fun ls hl => ?_)
  refine lv_iconst (v := 0) X.1 X.2.1 dX11_grievancesIn_2 (by decide) ?_
  refine lv_istore_n (lv' := [(3, .int _), (2, .int _), (0, .ref _), (1, .int _)]) X.1 X.2.1 dX11_grievancesIn_3 rfl hl (by decide) rfl (fun ls hl => ?_)
  exact c11_grievancesIn_c4 X _ _ _ _ _ _ _ _ _ I (lv_sub hl [2, 3, 1, 0] rfl) (Nat.lt_succ_self _) (hE.trans (rfl))
def f11_shares (σ : SI) (x1 : Int32) (x2 : Int32) : Int32 := if (f8_isHouse 10 σ x1) = true then (if x2 < (0 : Int32) then (-1 : Int32) else (if x2 ≤ (999 : Int32) then (if (0 : Int32) < (f11_grievancesIn σ (0 : Int32)) then ((x2 * (f0_grievanceOf 24 σ x1)) / (f11_grievancesIn σ (0 : Int32))) else (0 : Int32)) else (-1 : Int32))) else (-1 : Int32)
set_option maxHeartbeats 4000000 in
set_option maxRecDepth 100000 in
theorem c11_shares (l : Launch) (G : GT) (σ : SI) (τ : SL) (x1 : Int32) (x2 : Int32) : Mc l yX11_shares cX11_shares 4 (some .int) 7 G [.ref (G.2.1 0), .int x1, .int x2] σ τ (Qi G (Ei (f11_shares σ x1 x2) σ τ)) := by
  refine m_start (by decide +kernel) (Nat.le_of_ble_eq_true rfl) rfl (fun p e s m args below meth c ls X I hl => ?_)
  have hl : lv_has ls 4 [(0, .ref (G.2.1 0)), (1, .int x1), (2, .int x2)] := hl
  obtain ⟨E, hE⟩ : ∃ E, E = (f11_shares σ x1 x2) := ⟨_, rfl⟩
  rw [← hE]
  refine lv_aload_n X.1 X.2.1 dX11_shares_0 rfl (lv_at hl 0 rfl) ?_
  refine g11_3 X I (k := 0) (by decide) rfl lf_X11_35 dX11_shares_1 ?_
  refine lv_iload_n X.1 X.2.1 dX11_shares_4 rfl (lv_at hl 1 rfl) ?_
  refine r_ei I (r_runV X I pk_X8_isHouse (c8_isHouse l G (k := 10) ⟨by decide, rfl, rfl, rfl⟩ _ _ _) lm_X11_173 (by decide) (cl_8 rfl) rfl rfl rfl hl.1 rfl (Nat.le_of_ble_eq_true rfl) dX11_shares_5 ⟨Nat.le_of_ble_eq_true rfl, Nat.le_of_ble_eq_true rfl⟩ ⟨Nat.le_refl 0, Nat.le_refl 0⟩) (fun H locs I => ?_)
  refine lv_if_eq (tgt := 22) X.1 X.2.1 dX11_shares_8 (by decide) (fun c_1 => ?_) (fun c_1 => ?_)
  · skip
    refine lv_iconst (v := (-1)) X.1 X.2.1 dX11_shares_22 (by decide) ?_
    have h9 := hE.trans ((if_neg (b2i_n c_1)).trans rfl)
    exact r_iret X I (e_i (h9).symm rfl rfl) dX11_shares_23
  · skip
    refine lv_iload_n X.1 X.2.1 dX11_shares_11 rfl (lv_at hl 2 rfl) ?_
    refine lv_if_lt (tgt := 22) X.1 X.2.1 dX11_shares_12 (by decide) (fun c_2 => ?_) (fun c_2 => ?_)
    · skip
      refine lv_iconst (v := (-1)) X.1 X.2.1 dX11_shares_22 (by decide) ?_
      have h9 := hE.trans ((if_pos (b2i_y c_1)).trans ((if_pos c_2).trans rfl))
      exact r_iret X I (e_i (h9).symm rfl rfl) dX11_shares_23
    · skip
      refine lv_iload_n X.1 X.2.1 dX11_shares_15 rfl (lv_at hl 2 rfl) ?_
      refine lv_sipush (v := 999) X.1 X.2.1 dX11_shares_16 (by decide) ?_
      refine lv_icmp_le (tgt := 24) X.1 X.2.1 dX11_shares_19 (by decide) (fun c_3 => ?_) (fun c_3 => ?_)
      · skip
        refine lv_aload_n X.1 X.2.1 dX11_shares_24 rfl (lv_at hl 0 rfl) ?_
        refine lv_iconst (v := 0) X.1 X.2.1 dX11_shares_25 (by decide) ?_
        refine r_ei I (r_runV X I pk_X11_grievancesIn (c11_grievancesIn l G _ _ _) lm_X11_449 (by decide) (cl_11 rfl) rfl rfl rfl hl.1 rfl (Nat.le_of_ble_eq_true rfl) dX11_shares_26 ⟨Nat.le_of_ble_eq_true rfl, Nat.le_of_ble_eq_true rfl⟩ ⟨Nat.le_refl 0, Nat.le_refl 0⟩) (fun H locs I => ?_)
        refine lv_istore_n (lv' := [(3, .int _), (0, .ref _), (1, .int _), (2, .int _)]) X.1 X.2.1 dX11_shares_29 rfl hl (by decide) rfl (fun ls hl => ?_)
        refine lv_iload_n X.1 X.2.1 dX11_shares_30 rfl (lv_at hl 0 rfl) ?_
        refine lv_if_gt (tgt := 38) X.1 X.2.1 dX11_shares_31 (by decide) (fun c_4 => ?_) (fun c_4 => ?_)
        · skip
          refine lv_iload_n X.1 X.2.1 dX11_shares_38 rfl (lv_at hl 3 rfl) ?_
          refine lv_aload_n X.1 X.2.1 dX11_shares_39 rfl (lv_at hl 1 rfl) ?_
          refine g11_5 X I (k := 0) (by decide) rfl lf_X11_49 dX11_shares_40 ?_
          refine lv_iload_n X.1 X.2.1 dX11_shares_43 rfl (lv_at hl 2 rfl) ?_
          refine r_ei I (r_runV X I pk_X0_grievanceOf (c0_grievanceOf l G (k := 24) ⟨by decide, rfl, rfl⟩ _ _ _) lm_X11_185 (by decide) (cl_0 rfl) rfl rfl rfl hl.1 rfl (Nat.le_of_ble_eq_true rfl) dX11_shares_44 ⟨Nat.le_of_ble_eq_true rfl, Nat.le_of_ble_eq_true rfl⟩ ⟨Nat.le_refl 0, Nat.le_refl 0⟩) (fun H locs I => ?_)
          refine lv_imul X.1 X.2.1 dX11_shares_47 ?_
          refine lv_iload_n X.1 X.2.1 dX11_shares_48 rfl (lv_at hl 0 rfl) ?_
          refine lv_idiv X.1 X.2.1 dX11_shares_49 (ne_of_pos c_4) ?_
          have h9 := hE.trans ((if_pos (b2i_y c_1)).trans ((if_neg c_2).trans ((if_pos c_3).trans ((if_pos c_4).trans rfl))))
          exact r_iret X I (e_i (h9).symm rfl rfl) dX11_shares_50
        · skip
          refine lv_iconst (v := 0) X.1 X.2.1 dX11_shares_34 (by decide) ?_
          refine lv_goto (tgt := 50) X.1 X.2.1 dX11_shares_35 (by decide) ?_
          have h9 := hE.trans ((if_pos (b2i_y c_1)).trans ((if_neg c_2).trans ((if_pos c_3).trans ((if_neg c_4).trans rfl))))
          exact r_iret X I (e_i (h9).symm rfl rfl) dX11_shares_50
      · skip
        refine lv_iconst (v := (-1)) X.1 X.2.1 dX11_shares_22 (by decide) ?_
        have h9 := hE.trans ((if_pos (b2i_y c_1)).trans ((if_neg c_2).trans ((if_neg c_3).trans rfl)))
        exact r_iret X I (e_i (h9).symm rfl rfl) dX11_shares_23
def f11_content_c4 (σ : SI) : Nat → Int32 → Int32 → Int32
  | 0, _, _ => 0
  | fu + 1, v1, v2 => if (f8_houses 10 σ) ≤ v2 then v1 else (if (f0_grievanceOf 24 σ v2) = (0 : Int32) then (f11_content_c4 σ fu (v1 ||| ((1 : Int32) <<< (v2 &&& 31))) (v2 + 1)) else (f11_content_c4 σ fu v1 (v2 + 1)))
def f11_content (σ : SI) : Int32 := (f11_content_c4 σ ((Int32.toInt (f8_houses 10 σ) - Int32.toInt (0 : Int32)).toNat + 1) (0 : Int32) (0 : Int32))
set_option maxHeartbeats 4000000 in
set_option maxRecDepth 100000 in
theorem c11_content_c4 {l : Launch} {p : Program} {e : Env} {s : State} {m : MethodId} {args : Array Value} {below : List Frame} {meth : Method} {c : Code} {G : GT} (X : CX p s m args meth c cX11_content RX11 3 (some .int) G) {E : Int32} (σ : SI) (τ : SL) : ∀ (fu : Nat) (v1 : Int32) (v2 : Int32) (H : Heap) (locs : List Loc) (ls : Array Slot), IX G s H locs σ τ → lv_has ls 3 [(0, .ref (G.2.1 0)), (1, .int v1), (2, .int v2)] → (Int32.toInt (f8_houses 10 σ) - Int32.toInt v2).toNat < fu → E = (f11_content_c4 σ fu v1 v2) → W p l e (rmN 2) s m args below meth c H locs 0 0 (MQ below ((Qi G (Ei E σ τ)) s.heap.size) args s 0 0 (AW G s.heap.size)) (F0 m 4 ls []) := by
  intro fu
  induction fu with
  | zero =>
    intro v1 v2 H locs ls I hl  hm hE
    exact absurd hm (Nat.not_lt_zero _)
  | succ fu ih =>
    intro v1 v2 H locs ls I hl  hm hE
    refine lv_iload_n X.1 X.2.1 dX11_content_4 rfl (lv_at hl 2 rfl) ?_
    refine lv_aload_n X.1 X.2.1 dX11_content_5 rfl (lv_at hl 0 rfl) ?_
    refine g11_3 X I (k := 0) (by decide) rfl lf_X11_35 dX11_content_6 ?_
    refine r_ei I (r_runV X I pk_X8_houses (c8_houses l G (k := 10) ⟨by decide, rfl, rfl, rfl⟩ _ _) lm_X11_155 (by decide) (cl_8 rfl) rfl rfl rfl hl.1 rfl (Nat.le_of_ble_eq_true rfl) dX11_content_9 ⟨Nat.le_of_ble_eq_true rfl, Nat.le_of_ble_eq_true rfl⟩ ⟨Nat.le_refl 0, Nat.le_refl 0⟩) (fun H locs I => ?_)
    refine lv_icmp_ge (tgt := 38) X.1 X.2.1 dX11_content_12 (by decide) (fun c_1 => ?_) (fun c_1 => ?_)
    · skip
      refine lv_iload_n X.1 X.2.1 dX11_content_38 rfl (lv_at hl 1 rfl) ?_
      have h9 := hE.trans ((if_pos c_1).trans rfl)
      exact r_iret X I (e_i (h9).symm rfl rfl) dX11_content_39
    · skip
      refine lv_aload_n X.1 X.2.1 dX11_content_15 rfl (lv_at hl 0 rfl) ?_
      refine g11_5 X I (k := 0) (by decide) rfl lf_X11_49 dX11_content_16 ?_
      refine lv_iload_n X.1 X.2.1 dX11_content_19 rfl (lv_at hl 2 rfl) ?_
      refine r_ei I (r_runV X I pk_X0_grievanceOf (c0_grievanceOf l G (k := 24) ⟨by decide, rfl, rfl⟩ _ _ _) lm_X11_185 (by decide) (cl_0 rfl) rfl rfl rfl hl.1 rfl (Nat.le_of_ble_eq_true rfl) dX11_content_20 ⟨Nat.le_of_ble_eq_true rfl, Nat.le_of_ble_eq_true rfl⟩ ⟨Nat.le_refl 0, Nat.le_refl 0⟩) (fun H locs I => ?_)
      refine lv_if_ne (tgt := 32) X.1 X.2.1 dX11_content_23 (by decide) (fun c_2 => ?_) (fun c_2 => ?_)
      · skip
        refine lv_iinc (v := _ + 1) (lv' := [(2, .int _), (0, .ref _), (1, .int _)]) X.1 X.2.1 dX11_content_32 hl (k := 2) rfl rfl (by decide) rfl (fun ls hl => ?_)
        refine lv_goto (tgt := 4) X.1 X.2.1 dX11_content_35 (by decide) ?_
        exact ih _ _ _ _ _ I (lv_sub hl [1, 2, 0] rfl) (Nat.lt_of_lt_of_le (up_dec c_1) (Nat.le_of_lt_succ hm)) (hE.trans ((if_neg c_1).trans ((if_neg c_2).trans rfl)))
      · skip
        refine lv_iload_n X.1 X.2.1 dX11_content_26 rfl (lv_at hl 1 rfl) ?_
        refine lv_iconst (v := 1) X.1 X.2.1 dX11_content_27 (by decide) ?_
        refine lv_iload_n X.1 X.2.1 dX11_content_28 rfl (lv_at hl 2 rfl) ?_
        refine lv_ishl X.1 X.2.1 dX11_content_29 ?_
        refine lv_ior X.1 X.2.1 dX11_content_30 ?_
        refine lv_istore_n (lv' := [(1, .int _), (0, .ref _), (2, .int _)]) X.1 X.2.1 dX11_content_31 rfl hl (by decide) rfl (fun ls hl => ?_)
        refine lv_iinc (v := _ + 1) (lv' := [(2, .int _), (1, .int _), (0, .ref _)]) X.1 X.2.1 dX11_content_32 hl (k := 2) rfl rfl (by decide) rfl (fun ls hl => ?_)
        refine lv_goto (tgt := 4) X.1 X.2.1 dX11_content_35 (by decide) ?_
        exact ih _ _ _ _ _ I (lv_sub hl [2, 1, 0] rfl) (Nat.lt_of_lt_of_le (up_dec c_1) (Nat.le_of_lt_succ hm)) (hE.trans ((if_neg c_1).trans ((if_pos c_2).trans rfl)))
set_option maxHeartbeats 4000000 in
set_option maxRecDepth 100000 in
theorem c11_content (l : Launch) (G : GT) (σ : SI) (τ : SL) : Mc l yX11_content cX11_content 3 (some .int) 2 G [.ref (G.2.1 0)] σ τ (Qi G (Ei (f11_content σ) σ τ)) := by
  refine m_start (by decide +kernel) (Nat.le_of_ble_eq_true rfl) rfl (fun p e s m args below meth c ls X I hl => ?_)
  have hl : lv_has ls 3 [(0, .ref (G.2.1 0))] := hl
  obtain ⟨E, hE⟩ : ∃ E, E = (f11_content σ) := ⟨_, rfl⟩
  rw [← hE]
  refine lv_iconst (v := 0) X.1 X.2.1 dX11_content_0 (by decide) ?_
  refine lv_istore_n (lv' := [(1, .int _), (0, .ref _)]) X.1 X.2.1 dX11_content_1 rfl hl (by decide) rfl (fun ls hl => ?_)
  refine lv_iconst (v := 0) X.1 X.2.1 dX11_content_2 (by decide) ?_
  refine lv_istore_n (lv' := [(2, .int _), (1, .int _), (0, .ref _)]) X.1 X.2.1 dX11_content_3 rfl hl (by decide) rfl (fun ls hl => ?_)
  exact c11_content_c4 X _ _  _ _ _ _ _ _ I (lv_sub hl [2, 1, 0] rfl) (Nat.lt_succ_self _) (hE.trans (rfl))
def f11_farthest_c4 (σ : SI) : Nat → Int32 → Int32 → Int32
  | 0, _, _ => 0
  | fu + 1, v1, v2 => if (f8_houses 10 σ) ≤ v2 then v1 else (if (f8_distance 10 σ (-1 : Int32) v2) ≤ (f8_distance 10 σ (-1 : Int32) v1) then (f11_farthest_c4 σ fu v1 (v2 + 1)) else (f11_farthest_c4 σ fu v2 (v2 + 1)))
def f11_farthest (σ : SI) : Int32 := (f11_farthest_c4 σ ((Int32.toInt (f8_houses 10 σ) - Int32.toInt (1 : Int32)).toNat + 1) (0 : Int32) (1 : Int32))
set_option maxHeartbeats 4000000 in
set_option maxRecDepth 100000 in
theorem c11_farthest_c4 {l : Launch} {p : Program} {e : Env} {s : State} {m : MethodId} {args : Array Value} {below : List Frame} {meth : Method} {c : Code} {G : GT} (X : CX p s m args meth c cX11_farthest RX11 3 (some .int) G) {E : Int32} (σ : SI) (τ : SL) : ∀ (fu : Nat) (v1 : Int32) (v2 : Int32) (H : Heap) (locs : List Loc) (ls : Array Slot), IX G s H locs σ τ → lv_has ls 3 [(0, .ref (G.2.1 0)), (1, .int v1), (2, .int v2)] → (Int32.toInt (f8_houses 10 σ) - Int32.toInt v2).toNat < fu → E = (f11_farthest_c4 σ fu v1 v2) → W p l e (rmN 6) s m args below meth c H locs 0 0 (MQ below ((Qi G (Ei E σ τ)) s.heap.size) args s 0 0 (AW G s.heap.size)) (F0 m 4 ls []) := by
  intro fu
  induction fu with
  | zero =>
    intro v1 v2 H locs ls I hl  hm hE
    exact absurd hm (Nat.not_lt_zero _)
  | succ fu ih =>
    intro v1 v2 H locs ls I hl  hm hE
    refine lv_iload_n X.1 X.2.1 dX11_farthest_4 rfl (lv_at hl 2 rfl) ?_
    refine lv_aload_n X.1 X.2.1 dX11_farthest_5 rfl (lv_at hl 0 rfl) ?_
    refine g11_3 X I (k := 0) (by decide) rfl lf_X11_35 dX11_farthest_6 ?_
    refine r_ei I (r_runV X I pk_X8_houses (c8_houses l G (k := 10) ⟨by decide, rfl, rfl, rfl⟩ _ _) lm_X11_155 (by decide) (cl_8 rfl) rfl rfl rfl hl.1 rfl (Nat.le_of_ble_eq_true rfl) dX11_farthest_9 ⟨Nat.le_of_ble_eq_true rfl, Nat.le_of_ble_eq_true rfl⟩ ⟨Nat.le_refl 0, Nat.le_refl 0⟩) (fun H locs I => ?_)
    refine lv_icmp_ge (tgt := 44) X.1 X.2.1 dX11_farthest_12 (by decide) (fun c_1 => ?_) (fun c_1 => ?_)
    · skip
      refine lv_iload_n X.1 X.2.1 dX11_farthest_44 rfl (lv_at hl 1 rfl) ?_
      have h9 := hE.trans ((if_pos c_1).trans rfl)
      exact r_iret X I (e_i (h9).symm rfl rfl) dX11_farthest_45
    · skip
      refine lv_aload_n X.1 X.2.1 dX11_farthest_15 rfl (lv_at hl 0 rfl) ?_
      refine g11_3 X I (k := 0) (by decide) rfl lf_X11_35 dX11_farthest_16 ?_
      refine lv_iconst (v := (-1)) X.1 X.2.1 dX11_farthest_19 (by decide) ?_
      refine lv_iload_n X.1 X.2.1 dX11_farthest_20 rfl (lv_at hl 2 rfl) ?_
      refine r_ei I (r_runV X I pk_X8_distance (c8_distance l G (k := 10) ⟨by decide, rfl, rfl, rfl⟩ _ _ _ _) lm_X11_206 (by decide) (cl_8 rfl) rfl rfl rfl hl.1 rfl (Nat.le_of_ble_eq_true rfl) dX11_farthest_21 ⟨Nat.le_of_ble_eq_true rfl, Nat.le_of_ble_eq_true rfl⟩ ⟨Nat.le_refl 0, Nat.le_refl 0⟩) (fun H locs I => ?_)
      refine lv_aload_n X.1 X.2.1 dX11_farthest_24 rfl (lv_at hl 0 rfl) ?_
      refine g11_3 X I (k := 0) (by decide) rfl lf_X11_35 dX11_farthest_25 ?_
      refine lv_iconst (v := (-1)) X.1 X.2.1 dX11_farthest_28 (by decide) ?_
      refine lv_iload_n X.1 X.2.1 dX11_farthest_29 rfl (lv_at hl 1 rfl) ?_
      refine r_ei I (r_runV X I pk_X8_distance (c8_distance l G (k := 10) ⟨by decide, rfl, rfl, rfl⟩ _ _ _ _) lm_X11_206 (by decide) (cl_8 rfl) rfl rfl rfl hl.1 rfl (Nat.le_of_ble_eq_true rfl) dX11_farthest_30 ⟨Nat.le_of_ble_eq_true rfl, Nat.le_of_ble_eq_true rfl⟩ ⟨Nat.le_refl 0, Nat.le_refl 0⟩) (fun H locs I => ?_)
      refine lv_icmp_le (tgt := 38) X.1 X.2.1 dX11_farthest_33 (by decide) (fun c_2 => ?_) (fun c_2 => ?_)
      · skip
        refine lv_iinc (v := _ + 1) (lv' := [(2, .int _), (0, .ref _), (1, .int _)]) X.1 X.2.1 dX11_farthest_38 hl (k := 2) rfl rfl (by decide) rfl (fun ls hl => ?_)
        refine lv_goto (tgt := 4) X.1 X.2.1 dX11_farthest_41 (by decide) ?_
        exact ih _ _ _ _ _ I (lv_sub hl [1, 2, 0] rfl) (Nat.lt_of_lt_of_le (up_dec c_1) (Nat.le_of_lt_succ hm)) (hE.trans ((if_neg c_1).trans ((if_pos c_2).trans rfl)))
      · skip
        refine lv_iload_n X.1 X.2.1 dX11_farthest_36 rfl (lv_at hl 2 rfl) ?_
        refine lv_istore_n (lv' := [(1, .int _), (0, .ref _), (2, .int _)]) X.1 X.2.1 dX11_farthest_37 rfl hl (by decide) rfl (fun ls hl => ?_)
        refine lv_iinc (v := _ + 1) (lv' := [(2, .int _), (1, .int _), (0, .ref _)]) X.1 X.2.1 dX11_farthest_38 hl (k := 2) rfl rfl (by decide) rfl (fun ls hl => ?_)
        refine lv_goto (tgt := 4) X.1 X.2.1 dX11_farthest_41 (by decide) ?_
        exact ih _ _ _ _ _ I (lv_sub hl [2, 1, 0] rfl) (Nat.lt_of_lt_of_le (up_dec c_1) (Nat.le_of_lt_succ hm)) (hE.trans ((if_neg c_1).trans ((if_neg c_2).trans rfl)))
set_option maxHeartbeats 4000000 in
set_option maxRecDepth 100000 in
theorem c11_farthest (l : Launch) (G : GT) (σ : SI) (τ : SL) : Mc l yX11_farthest cX11_farthest 3 (some .int) 6 G [.ref (G.2.1 0)] σ τ (Qi G (Ei (f11_farthest σ) σ τ)) := by
  refine m_start (by decide +kernel) (Nat.le_of_ble_eq_true rfl) rfl (fun p e s m args below meth c ls X I hl => ?_)
  have hl : lv_has ls 3 [(0, .ref (G.2.1 0))] := hl
  obtain ⟨E, hE⟩ : ∃ E, E = (f11_farthest σ) := ⟨_, rfl⟩
  rw [← hE]
  refine lv_iconst (v := 0) X.1 X.2.1 dX11_farthest_0 (by decide) ?_
  refine lv_istore_n (lv' := [(1, .int _), (0, .ref _)]) X.1 X.2.1 dX11_farthest_1 rfl hl (by decide) rfl (fun ls hl => ?_)
  refine lv_iconst (v := 1) X.1 X.2.1 dX11_farthest_2 (by decide) ?_
  refine lv_istore_n (lv' := [(2, .int _), (1, .int _), (0, .ref _)]) X.1 X.2.1 dX11_farthest_3 rfl hl (by decide) rfl (fun ls hl => ?_)
  exact c11_farthest_c4 X _ _  _ _ _ _ _ _ I (lv_sub hl [2, 1, 0] rfl) (Nat.lt_succ_self _) (hE.trans (rfl))
def f11_hardest_c4 (σ : SI) : Nat → Int32 → Int32 → Int32
  | 0, _, _ => 0
  | fu + 1, v1, v2 => if (f8_houses 10 σ) ≤ v2 then v1 else (if (f0_grievanceOf 24 σ v2) ≤ (f0_grievanceOf 24 σ v1) then (f11_hardest_c4 σ fu v1 (v2 + 1)) else (f11_hardest_c4 σ fu v2 (v2 + 1)))
def f11_hardest (σ : SI) : Int32 := (f11_hardest_c4 σ ((Int32.toInt (f8_houses 10 σ) - Int32.toInt (1 : Int32)).toNat + 1) (0 : Int32) (1 : Int32))
set_option maxHeartbeats 4000000 in
set_option maxRecDepth 100000 in
theorem c11_hardest_c4 {l : Launch} {p : Program} {e : Env} {s : State} {m : MethodId} {args : Array Value} {below : List Frame} {meth : Method} {c : Code} {G : GT} (X : CX p s m args meth c cX11_hardest RX11 3 (some .int) G) {E : Int32} (σ : SI) (τ : SL) : ∀ (fu : Nat) (v1 : Int32) (v2 : Int32) (H : Heap) (locs : List Loc) (ls : Array Slot), IX G s H locs σ τ → lv_has ls 3 [(0, .ref (G.2.1 0)), (1, .int v1), (2, .int v2)] → (Int32.toInt (f8_houses 10 σ) - Int32.toInt v2).toNat < fu → E = (f11_hardest_c4 σ fu v1 v2) → W p l e (rmN 2) s m args below meth c H locs 0 0 (MQ below ((Qi G (Ei E σ τ)) s.heap.size) args s 0 0 (AW G s.heap.size)) (F0 m 4 ls []) := by
  intro fu
  induction fu with
  | zero =>
    intro v1 v2 H locs ls I hl  hm hE
    exact absurd hm (Nat.not_lt_zero _)
  | succ fu ih =>
    intro v1 v2 H locs ls I hl  hm hE
    refine lv_iload_n X.1 X.2.1 dX11_hardest_4 rfl (lv_at hl 2 rfl) ?_
    refine lv_aload_n X.1 X.2.1 dX11_hardest_5 rfl (lv_at hl 0 rfl) ?_
    refine g11_3 X I (k := 0) (by decide) rfl lf_X11_35 dX11_hardest_6 ?_
    refine r_ei I (r_runV X I pk_X8_houses (c8_houses l G (k := 10) ⟨by decide, rfl, rfl, rfl⟩ _ _) lm_X11_155 (by decide) (cl_8 rfl) rfl rfl rfl hl.1 rfl (Nat.le_of_ble_eq_true rfl) dX11_hardest_9 ⟨Nat.le_of_ble_eq_true rfl, Nat.le_of_ble_eq_true rfl⟩ ⟨Nat.le_refl 0, Nat.le_refl 0⟩) (fun H locs I => ?_)
    refine lv_icmp_ge (tgt := 42) X.1 X.2.1 dX11_hardest_12 (by decide) (fun c_1 => ?_) (fun c_1 => ?_)
    · skip
      refine lv_iload_n X.1 X.2.1 dX11_hardest_42 rfl (lv_at hl 1 rfl) ?_
      have h9 := hE.trans ((if_pos c_1).trans rfl)
      exact r_iret X I (e_i (h9).symm rfl rfl) dX11_hardest_43
    · skip
      refine lv_aload_n X.1 X.2.1 dX11_hardest_15 rfl (lv_at hl 0 rfl) ?_
      refine g11_5 X I (k := 0) (by decide) rfl lf_X11_49 dX11_hardest_16 ?_
      refine lv_iload_n X.1 X.2.1 dX11_hardest_19 rfl (lv_at hl 2 rfl) ?_
      refine r_ei I (r_runV X I pk_X0_grievanceOf (c0_grievanceOf l G (k := 24) ⟨by decide, rfl, rfl⟩ _ _ _) lm_X11_185 (by decide) (cl_0 rfl) rfl rfl rfl hl.1 rfl (Nat.le_of_ble_eq_true rfl) dX11_hardest_20 ⟨Nat.le_of_ble_eq_true rfl, Nat.le_of_ble_eq_true rfl⟩ ⟨Nat.le_refl 0, Nat.le_refl 0⟩) (fun H locs I => ?_)
      refine lv_aload_n X.1 X.2.1 dX11_hardest_23 rfl (lv_at hl 0 rfl) ?_
      refine g11_5 X I (k := 0) (by decide) rfl lf_X11_49 dX11_hardest_24 ?_
      refine lv_iload_n X.1 X.2.1 dX11_hardest_27 rfl (lv_at hl 1 rfl) ?_
      refine r_ei I (r_runV X I pk_X0_grievanceOf (c0_grievanceOf l G (k := 24) ⟨by decide, rfl, rfl⟩ _ _ _) lm_X11_185 (by decide) (cl_0 rfl) rfl rfl rfl hl.1 rfl (Nat.le_of_ble_eq_true rfl) dX11_hardest_28 ⟨Nat.le_of_ble_eq_true rfl, Nat.le_of_ble_eq_true rfl⟩ ⟨Nat.le_refl 0, Nat.le_refl 0⟩) (fun H locs I => ?_)
      refine lv_icmp_le (tgt := 36) X.1 X.2.1 dX11_hardest_31 (by decide) (fun c_2 => ?_) (fun c_2 => ?_)
      · skip
        refine lv_iinc (v := _ + 1) (lv' := [(2, .int _), (0, .ref _), (1, .int _)]) X.1 X.2.1 dX11_hardest_36 hl (k := 2) rfl rfl (by decide) rfl (fun ls hl => ?_)
        refine lv_goto (tgt := 4) X.1 X.2.1 dX11_hardest_39 (by decide) ?_
        exact ih _ _ _ _ _ I (lv_sub hl [1, 2, 0] rfl) (Nat.lt_of_lt_of_le (up_dec c_1) (Nat.le_of_lt_succ hm)) (hE.trans ((if_neg c_1).trans ((if_pos c_2).trans rfl)))
      · skip
        refine lv_iload_n X.1 X.2.1 dX11_hardest_34 rfl (lv_at hl 2 rfl) ?_
        refine lv_istore_n (lv' := [(1, .int _), (0, .ref _), (2, .int _)]) X.1 X.2.1 dX11_hardest_35 rfl hl (by decide) rfl (fun ls hl => ?_)
        refine lv_iinc (v := _ + 1) (lv' := [(2, .int _), (1, .int _), (0, .ref _)]) X.1 X.2.1 dX11_hardest_36 hl (k := 2) rfl rfl (by decide) rfl (fun ls hl => ?_)
        refine lv_goto (tgt := 4) X.1 X.2.1 dX11_hardest_39 (by decide) ?_
        exact ih _ _ _ _ _ I (lv_sub hl [2, 1, 0] rfl) (Nat.lt_of_lt_of_le (up_dec c_1) (Nat.le_of_lt_succ hm)) (hE.trans ((if_neg c_1).trans ((if_neg c_2).trans rfl)))
set_option maxHeartbeats 4000000 in
set_option maxRecDepth 100000 in
theorem c11_hardest (l : Launch) (G : GT) (σ : SI) (τ : SL) : Mc l yX11_hardest cX11_hardest 3 (some .int) 2 G [.ref (G.2.1 0)] σ τ (Qi G (Ei (f11_hardest σ) σ τ)) := by
  refine m_start (by decide +kernel) (Nat.le_of_ble_eq_true rfl) rfl (fun p e s m args below meth c ls X I hl => ?_)
  have hl : lv_has ls 3 [(0, .ref (G.2.1 0))] := hl
  obtain ⟨E, hE⟩ : ∃ E, E = (f11_hardest σ) := ⟨_, rfl⟩
  rw [← hE]
  refine lv_iconst (v := 0) X.1 X.2.1 dX11_hardest_0 (by decide) ?_
  refine lv_istore_n (lv' := [(1, .int _), (0, .ref _)]) X.1 X.2.1 dX11_hardest_1 rfl hl (by decide) rfl (fun ls hl => ?_)
  refine lv_iconst (v := 1) X.1 X.2.1 dX11_hardest_2 (by decide) ?_
  refine lv_istore_n (lv' := [(2, .int _), (1, .int _), (0, .ref _)]) X.1 X.2.1 dX11_hardest_3 rfl hl (by decide) rfl (fun ls hl => ?_)
  exact c11_hardest_c4 X _ _  _ _ _ _ _ _ I (lv_sub hl [2, 1, 0] rfl) (Nat.lt_succ_self _) (hE.trans (rfl))
