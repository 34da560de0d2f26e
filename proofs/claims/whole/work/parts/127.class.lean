noncomputable def f11_shorter_c35 (x1 : Int32) (x2 : Int32) (x3 : Int32) : Nat → Int32 → SI → (Int32 × SI)
  | 0, _, σ => (0, σ)
  | fu + 1, v4, σ => if x3 < v4 then ((-1 : Int32), σ) else (let r0 := (f11_standsNow σ x1 (x3 - v4)); if x2 < r0.1 then (f11_shorter_c35 x1 x2 x3 fu (v4 + 1) r0.2) else (v4, r0.2))
noncomputable def f11_shorter (σ : SI) (x1 : Int32) (x2 : Int32) : Int32 × SI := if (f8_isHouse 10 σ x1) = true then (if x2 < (0 : Int32) then ((-1 : Int32), σ) else (if x2 ≤ (60 : Int32) then (f11_shorter_c35 x1 x2 (f0_grievanceOf 24 σ x1) (fu1 ((Int32.toInt (f0_grievanceOf 24 σ x1) + 1 - Int32.toInt (0 : Int32)).toNat)) (0 : Int32) σ) else ((-1 : Int32), σ))) else ((-1 : Int32), σ)
theorem w_f11_shorter_c35 (x1 : Int32) (x2 : Int32) (x3 : Int32) (a : Nat) (h0 : a ≠ 13) (h1 : a ≠ 15) : ∀ (fu : Nat) (v4 : Int32) (σ : SI), (f11_shorter_c35 x1 x2 x3 fu v4 σ).2 a = σ a := by
  intro fu
  induction fu with
  | zero => intro v4 σ; exact rfl
  | succ fu ih =>
    intro v4 σ
    refine fp_to2 ?_
    unfold f11_shorter_c35
    exact (fr_ite2 (fr_mk21 rfl) (fr_ite2 (fp_of2 (((ih _ _).trans (w_f11_standsNow _ _ _ a h0 h1)))) (fr_mk21 (w_f11_standsNow _ _ _ a h0 h1))))
theorem w_f11_shorter (σ : SI) (x1 : Int32) (x2 : Int32) (a : Nat) (h0 : a ≠ 13) (h1 : a ≠ 15) : (f11_shorter σ x1 x2).2 a = σ a := by
  refine fp_to2 ?_
  unfold f11_shorter
  exact (fr_ite2 (fr_ite2 (fr_mk21 rfl) (fr_ite2 (fp_of2 ((w_f11_shorter_c35 _ _ _ a h0 h1 _ _ _))) (fr_mk21 rfl))) (fr_mk21 rfl))
set_option maxHeartbeats 4000000 in
set_option maxRecDepth 100000 in
theorem c11_shorter_c35 {l : Launch} {p : Program} {e : Env} {s : State} {m : MethodId} {args : Array Value} {below : List Frame} {meth : Method} {c : Code} {G : GT} (X : CX p s m args meth c cX11_shorter RX11 5 (some .int) G) {E : Int32 × SI} (τ : SL) (x1 : Int32) (x2 : Int32) (x3 : Int32) : ∀ (fu : Nat) (v4 : Int32) (σ : SI) (H : Heap) (locs : List Loc) (ls : Array Slot), IX G s H locs σ τ → lv_has ls 5 [(0, .ref (G.2.1 0)), (1, .int x1), (2, .int x2), (3, .int x3), (4, .int v4)] → Int32.toInt x3 < 2147483647 → (Int32.toInt x3 + 1 - Int32.toInt v4).toNat < fu → E = (f11_shorter_c35 x1 x2 x3 fu v4 σ) → W p l e (rmN 5) s m args below meth c H locs 0 0 (MQ below ((Qi G (Ei E.1 E.2 τ)) s.heap.size) args s 0 0 (AW G s.heap.size)) (F0 m 35 ls []) := by
  intro fu
  induction fu with
  | zero =>
    intro v4 σ H locs ls I hl hb hm hE
    exact absurd hm (Nat.not_lt_zero _)
  | succ fu ih =>
    intro v4 σ H locs ls I hl hb hm hE
    refine lv_iload X.1 X.2.1 dX11_shorter_35 (lv_at hl 4 rfl) ?_
    refine lv_iload_n X.1 X.2.1 dX11_shorter_37 rfl (lv_at hl 3 rfl) ?_
    refine lv_icmp_gt (tgt := 63) X.1 X.2.1 dX11_shorter_38 (by decide) (fun c_4 => ?_) (fun c_4 => ?_)
    · skip
      have hE := ite_t hE c_4
      refine lv_iconst (v := (-1)) X.1 X.2.1 dX11_shorter_63 (by decide) ?_
      have h9 := hE
      exact r_iret X I (e_i (pr_fst h9) (pr_snd h9) rfl) dX11_shorter_64
    · skip
      have hE := ite_f hE c_4
      refine lv_aload_n X.1 X.2.1 dX11_shorter_41 rfl (lv_at hl 0 rfl) ?_
      refine lv_iload_n X.1 X.2.1 dX11_shorter_42 rfl (lv_at hl 1 rfl) ?_
      refine lv_iload_n X.1 X.2.1 dX11_shorter_43 rfl (lv_at hl 3 rfl) ?_
      refine lv_iload X.1 X.2.1 dX11_shorter_44 (lv_at hl 4 rfl) ?_
      refine lv_isub X.1 X.2.1 dX11_shorter_46 ?_
      refine r_ei I (r_runV X I pk_X11_standsNow (c11_standsNow l G _ _ _ _) lm_X11_207 (by decide) (cl_11 rfl) rfl rfl rfl hl.1 rfl (Nat.le_of_ble_eq_true rfl) dX11_shorter_47 ⟨Nat.le_of_ble_eq_true rfl, Nat.le_of_ble_eq_true rfl⟩ ⟨Nat.le_refl 0, Nat.le_refl 0⟩) (fun H locs I => ?_)
      refine lv_iload_n X.1 X.2.1 dX11_shorter_50 rfl (lv_at hl 2 rfl) ?_
      refine lv_icmp_gt (tgt := 57) X.1 X.2.1 dX11_shorter_51 (by decide) (fun c_5 => ?_) (fun c_5 => ?_)
      · skip
        have hE := ite_t hE c_5
        refine lv_iinc (v := _ + 1) (lv' := [(4, .int _), (0, .ref _), (1, .int _), (2, .int _), (3, .int _)]) X.1 X.2.1 dX11_shorter_57 hl (k := 4) rfl rfl (by decide) rfl (fun ls hl => ?_)
        refine lv_goto (tgt := 35) X.1 X.2.1 dX11_shorter_60 (by decide) ?_
        exact ih _ _ _ _ _ I (lv_sub hl [1, 2, 3, 4, 0] rfl) (hb) (Nat.lt_of_lt_of_le (up_decE hb c_4) (Nat.le_of_lt_succ hm)) (hE.trans (rfl))
      · skip
        have hE := ite_f hE c_5
        refine lv_iload X.1 X.2.1 dX11_shorter_54 (lv_at hl 4 rfl) ?_
        have h9 := hE
        exact r_iret X I (e_i (pr_fst h9) (pr_snd h9) rfl) dX11_shorter_56
set_option maxHeartbeats 4000000 in
set_option maxRecDepth 100000 in
theorem c11_shorter (l : Launch) (G : GT) (σ : SI) (τ : SL) (x1 : Int32) (x2 : Int32) (hg : Int32.toInt (f0_grievanceOf 24 σ x1) < 2147483647) : Mc l yX11_shorter cX11_shorter 5 (some .int) 5 G [.ref (G.2.1 0), .int x1, .int x2] σ τ (Qi G (Ei (f11_shorter σ x1 x2).1 (f11_shorter σ x1 x2).2 τ)) := by
  refine m_start (by decide +kernel) (Nat.le_of_ble_eq_true rfl) rfl (fun p e s m args below meth c ls X I hl => ?_)
  have hl : lv_has ls 5 [(0, .ref (G.2.1 0)), (1, .int x1), (2, .int x2)] := hl
  obtain ⟨E, hE⟩ : ∃ E, E = (f11_shorter σ x1 x2) := ⟨_, rfl⟩
  rw [← hE]
  refine lv_aload_n X.1 X.2.1 dX11_shorter_0 rfl (lv_at hl 0 rfl) ?_
  refine g11_3 X I (k := 0) (by decide) rfl lf_X11_35 dX11_shorter_1 ?_
  refine lv_iload_n X.1 X.2.1 dX11_shorter_4 rfl (lv_at hl 1 rfl) ?_
  refine r_ei I (r_runV X I pk_X8_isHouse (c8_isHouse l G (k := 10) ⟨by decide, rfl, rfl, rfl⟩ _ _ _) lm_X11_169 (by decide) (cl_8 rfl) rfl rfl rfl hl.1 rfl (Nat.le_of_ble_eq_true rfl) dX11_shorter_5 ⟨Nat.le_of_ble_eq_true rfl, Nat.le_of_ble_eq_true rfl⟩ ⟨Nat.le_refl 0, Nat.le_refl 0⟩) (fun H locs I => ?_)
  refine lv_if_eq (tgt := 21) X.1 X.2.1 dX11_shorter_8 (by decide) (fun c_1 => ?_) (fun c_1 => ?_)
  · skip
    have hE := ite_f hE (b2i_n c_1)
    refine lv_iconst (v := (-1)) X.1 X.2.1 dX11_shorter_21 (by decide) ?_
    have h9 := hE
    exact r_iret X I (e_i (pr_fst h9) (pr_snd h9) rfl) dX11_shorter_22
  · skip
    have hE := ite_t hE (b2i_y c_1)
    refine lv_iload_n X.1 X.2.1 dX11_shorter_11 rfl (lv_at hl 2 rfl) ?_
    refine lv_if_lt (tgt := 21) X.1 X.2.1 dX11_shorter_12 (by decide) (fun c_2 => ?_) (fun c_2 => ?_)
    · skip
      have hE := ite_t hE c_2
      refine lv_iconst (v := (-1)) X.1 X.2.1 dX11_shorter_21 (by decide) ?_
      have h9 := hE
      exact r_iret X I (e_i (pr_fst h9) (pr_snd h9) rfl) dX11_shorter_22
    · skip
      have hE := ite_f hE c_2
      refine lv_iload_n X.1 X.2.1 dX11_shorter_15 rfl (lv_at hl 2 rfl) ?_
      refine lv_bipush (v := 60) X.1 X.2.1 dX11_shorter_16 (by decide) ?_
      refine lv_icmp_le (tgt := 23) X.1 X.2.1 dX11_shorter_18 (by decide) (fun c_3 => ?_) (fun c_3 => ?_)
      · skip
        have hE := ite_t hE c_3
        refine lv_aload_n X.1 X.2.1 dX11_shorter_23 rfl (lv_at hl 0 rfl) ?_
        refine g11_5 X I (k := 0) (by decide) rfl lf_X11_49 dX11_shorter_24 ?_
        refine lv_iload_n X.1 X.2.1 dX11_shorter_27 rfl (lv_at hl 1 rfl) ?_
        refine r_ei I (r_runV X I pk_X0_grievanceOf (c0_grievanceOf l G (k := 24) ⟨by decide, rfl, rfl⟩ _ _ _) lm_X11_182 (by decide) (cl_0 rfl) rfl rfl rfl hl.1 rfl (Nat.le_of_ble_eq_true rfl) dX11_shorter_28 ⟨Nat.le_of_ble_eq_true rfl, Nat.le_of_ble_eq_true rfl⟩ ⟨Nat.le_refl 0, Nat.le_refl 0⟩) (fun H locs I => ?_)
        refine lv_istore_n (lv' := [(3, .int _), (0, .ref _), (1, .int _), (2, .int _)]) X.1 X.2.1 dX11_shorter_31 rfl hl (by decide) rfl (fun ls hl => ?_)
        refine lv_iconst (v := 0) X.1 X.2.1 dX11_shorter_32 (by decide) ?_
        refine lv_istore (lv' := [(4, .int _), (3, .int _), (0, .ref _), (1, .int _), (2, .int _)]) X.1 X.2.1 dX11_shorter_33 hl (by decide) rfl (fun ls hl => ?_)
        exact c11_shorter_c35 X _ _ _ _ _ _ _ _ _ _ I (lv_sub hl [2, 3, 4, 1, 0] rfl) (hg) (fu1_lt _) (hE.trans (rfl))
      · skip
        have hE := ite_f hE c_3
        refine lv_iconst (v := (-1)) X.1 X.2.1 dX11_shorter_21 (by decide) ?_
        have h9 := hE
        exact r_iret X I (e_i (pr_fst h9) (pr_snd h9) rfl) dX11_shorter_22
noncomputable def f11_strengthOfAll_c4 (σ : SI) (x1 : Int32) : Nat → Int32 → Int32 → Int32
  | 0, _, _ => 0
  | fu + 1, v2, v3 => if (f8_bearers 10 σ) ≤ v3 then v2 else (if (f11_hasBit x1 v3) = true then (f11_strengthOfAll_c4 σ x1 fu (v2 + (f8_strengthOf 10 σ v3)) (v3 + 1)) else (f11_strengthOfAll_c4 σ x1 fu v2 (v3 + 1)))
noncomputable def f11_strengthOfAll (σ : SI) (x1 : Int32) : Int32 := (f11_strengthOfAll_c4 σ x1 (fu1 ((Int32.toInt (f8_bearers 10 σ) - Int32.toInt (0 : Int32)).toNat)) (0 : Int32) (0 : Int32))
set_option maxHeartbeats 4000000 in
set_option maxRecDepth 100000 in
theorem c11_strengthOfAll_c4 {l : Launch} {p : Program} {e : Env} {s : State} {m : MethodId} {args : Array Value} {below : List Frame} {meth : Method} {c : Code} {G : GT} (X : CX p s m args meth c cX11_strengthOfAll RX11 4 (some .int) G) {E : Int32} (σ : SI) (τ : SL) (x1 : Int32) : ∀ (fu : Nat) (v2 : Int32) (v3 : Int32) (H : Heap) (locs : List Loc) (ls : Array Slot), IX G s H locs σ τ → lv_has ls 4 [(0, .ref (G.2.1 0)), (1, .int x1), (2, .int v2), (3, .int v3)] → (Int32.toInt (f8_bearers 10 σ) - Int32.toInt v3).toNat < fu → E = (f11_strengthOfAll_c4 σ x1 fu v2 v3) → W p l e (rmN 3) s m args below meth c H locs 0 0 (MQ below ((Qi G (Ei E σ τ)) s.heap.size) args s 0 0 (AW G s.heap.size)) (F0 m 4 ls []) := by
  intro fu
  induction fu with
  | zero =>
    intro v2 v3 H locs ls I hl  hm hE
    exact absurd hm (Nat.not_lt_zero _)
  | succ fu ih =>
    intro v2 v3 H locs ls I hl  hm hE
    refine lv_iload_n X.1 X.2.1 dX11_strengthOfAll_4 rfl (lv_at hl 3 rfl) ?_
    refine lv_aload_n X.1 X.2.1 dX11_strengthOfAll_5 rfl (lv_at hl 0 rfl) ?_
    refine g11_3 X I (k := 0) (by decide) rfl lf_X11_35 dX11_strengthOfAll_6 ?_
    refine r_ei I (r_runV X I pk_X8_bearers (c8_bearers l G (k := 10) ⟨by decide, rfl, rfl, rfl⟩ _ _) lm_X11_191 (by decide) (cl_8 rfl) rfl rfl rfl hl.1 rfl (Nat.le_of_ble_eq_true rfl) dX11_strengthOfAll_9 ⟨Nat.le_of_ble_eq_true rfl, Nat.le_of_ble_eq_true rfl⟩ ⟨Nat.le_refl 0, Nat.le_refl 0⟩) (fun H locs I => ?_)
    refine lv_icmp_ge (tgt := 40) X.1 X.2.1 dX11_strengthOfAll_12 (by decide) (fun c_1 => ?_) (fun c_1 => ?_)
    · skip
      have hE := ite_t hE c_1
      refine lv_iload_n X.1 X.2.1 dX11_strengthOfAll_40 rfl (lv_at hl 2 rfl) ?_
      have h9 := hE
      exact r_iret X I (e_i h9.symm rfl rfl) dX11_strengthOfAll_41
    · skip
      have hE := ite_f hE c_1
      refine lv_iload_n X.1 X.2.1 dX11_strengthOfAll_15 rfl (lv_at hl 1 rfl) ?_
      refine lv_iload_n X.1 X.2.1 dX11_strengthOfAll_16 rfl (lv_at hl 3 rfl) ?_
      refine r_ei I (r_runS X I pk_X11_hasBit (c11_hasBit l G _ _ _ _) lm_X11_350 rfl hl.1 rfl (Nat.le_of_ble_eq_true rfl) dX11_strengthOfAll_17 ⟨Nat.le_of_ble_eq_true rfl, Nat.le_of_ble_eq_true rfl⟩ ⟨Nat.le_refl 0, Nat.le_refl 0⟩) (fun H locs I => ?_)
      refine lv_if_eq (tgt := 34) X.1 X.2.1 dX11_strengthOfAll_20 (by decide) (fun c_2 => ?_) (fun c_2 => ?_)
      · skip
        have hE := ite_f hE (b2i_n c_2)
        refine lv_iinc (v := _ + 1) (lv' := [(3, .int _), (0, .ref _), (1, .int _), (2, .int _)]) X.1 X.2.1 dX11_strengthOfAll_34 hl (k := 3) rfl rfl (by decide) rfl (fun ls hl => ?_)
        refine lv_goto (tgt := 4) X.1 X.2.1 dX11_strengthOfAll_37 (by decide) ?_
        exact ih _ _ _ _ _ I (lv_sub hl [1, 2, 3, 0] rfl) (Nat.lt_of_lt_of_le (up_dec c_1) (Nat.le_of_lt_succ hm)) (hE.trans (rfl))
      · skip
        have hE := ite_t hE (b2i_y c_2)
        refine lv_iload_n X.1 X.2.1 dX11_strengthOfAll_23 rfl (lv_at hl 2 rfl) ?_
        refine lv_aload_n X.1 X.2.1 dX11_strengthOfAll_24 rfl (lv_at hl 0 rfl) ?_
        refine g11_3 X I (k := 0) (by decide) rfl lf_X11_35 dX11_strengthOfAll_25 ?_
        refine lv_iload_n X.1 X.2.1 dX11_strengthOfAll_28 rfl (lv_at hl 3 rfl) ?_
        refine r_ei I (r_runV X I pk_X8_strengthOf (c8_strengthOf l G (k := 10) ⟨by decide, rfl, rfl, rfl⟩ _ _ _) lm_X11_194 (by decide) (cl_8 rfl) rfl rfl rfl hl.1 rfl (Nat.le_of_ble_eq_true rfl) dX11_strengthOfAll_29 ⟨Nat.le_of_ble_eq_true rfl, Nat.le_of_ble_eq_true rfl⟩ ⟨Nat.le_refl 0, Nat.le_refl 0⟩) (fun H locs I => ?_)
        refine lv_iadd X.1 X.2.1 dX11_strengthOfAll_32 ?_
        refine lv_istore_n (lv' := [(2, .int _), (0, .ref _), (1, .int _), (3, .int _)]) X.1 X.2.1 dX11_strengthOfAll_33 rfl hl (by decide) rfl (fun ls hl => ?_)
        refine lv_iinc (v := _ + 1) (lv' := [(3, .int _), (2, .int _), (0, .ref _), (1, .int _)]) X.1 X.2.1 dX11_strengthOfAll_34 hl (k := 3) rfl rfl (by decide) rfl (fun ls hl => ?_)
        refine lv_goto (tgt := 4) X.1 X.2.1 dX11_strengthOfAll_37 (by decide) ?_
        exact ih _ _ _ _ _ I (lv_sub hl [2, 3, 1, 0] rfl) (Nat.lt_of_lt_of_le (up_dec c_1) (Nat.le_of_lt_succ hm)) (hE.trans (rfl))
set_option maxHeartbeats 4000000 in
set_option maxRecDepth 100000 in
theorem c11_strengthOfAll (l : Launch) (G : GT) (σ : SI) (τ : SL) (x1 : Int32) : Mc l yX11_strengthOfAll cX11_strengthOfAll 4 (some .int) 3 G [.ref (G.2.1 0), .int x1] σ τ (Qi G (Ei (f11_strengthOfAll σ x1) σ τ)) := by
  refine m_start (by decide +kernel) (Nat.le_of_ble_eq_true rfl) rfl (fun p e s m args below meth c ls X I hl => ?_)
  have hl : lv_has ls 4 [(0, .ref (G.2.1 0)), (1, .int x1)] := hl
  obtain ⟨E, hE⟩ : ∃ E, E = (f11_strengthOfAll σ x1) := ⟨_, rfl⟩
  rw [← hE]
  refine lv_iconst (v := 0) X.1 X.2.1 dX11_strengthOfAll_0 (by decide) ?_
  refine lv_istore_n (lv' := [(2, .int _), (0, .ref _), (1, .int _)]) X.1 X.2.1 dX11_strengthOfAll_1 rfl hl (by decide) rfl (fun ls hl => ?_)
  refine lv_iconst (v := 0) X.1 X.2.1 dX11_strengthOfAll_2 (by decide) ?_
  refine lv_istore_n (lv' := [(3, .int _), (2, .int _), (0, .ref _), (1, .int _)]) X.1 X.2.1 dX11_strengthOfAll_3 rfl hl (by decide) rfl (fun ls hl => ?_)
  exact c11_strengthOfAll_c4 X _ _ _ _ _ _ _ _ _ I (lv_sub hl [2, 3, 1, 0] rfl) (fu1_lt _) (hE.trans (rfl))
noncomputable def f11_roster_c28 (σ : SI) (x1 : Int32) : Nat → Int32 → Int32 → Int32
  | 0, _, _ => 0
  | fu + 1, v2, v3 => if ((1 : Int32) <<< ((f8_bearers 10 σ) &&& 31)) ≤ v3 then v2 else (if (f11_strengthOfAll σ v3) < x1 then (f11_roster_c28 σ x1 fu v2 (v3 + 1)) else (if v2 = (-1 : Int32) then (f11_roster_c28 σ x1 fu v3 (v3 + 1)) else (if (fbitCount v2) ≤ (fbitCount v3) then (f11_roster_c28 σ x1 fu v2 (v3 + 1)) else (f11_roster_c28 σ x1 fu v3 (v3 + 1)))))
noncomputable def f11_roster (σ : SI) (x1 : Int32) : Int32 := if (f8_isTold 10 σ) = true then (if x1 < (1 : Int32) then (-1 : Int32) else (if x1 ≤ (200 : Int32) then (f11_roster_c28 σ x1 (fu1 ((Int32.toInt ((1 : Int32) <<< ((f8_bearers 10 σ) &&& 31)) - Int32.toInt (1 : Int32)).toNat)) (-1 : Int32) (1 : Int32)) else (-1 : Int32))) else (-1 : Int32)
set_option maxHeartbeats 4000000 in
set_option maxRecDepth 100000 in
theorem c11_roster_c28 {l : Launch} {p : Program} {e : Env} {s : State} {m : MethodId} {args : Array Value} {below : List Frame} {meth : Method} {c : Code} {G : GT} (X : CX p s m args meth c cX11_roster RX11 4 (some .int) G) {E : Int32} (σ : SI) (τ : SL) (x1 : Int32) : ∀ (fu : Nat) (v2 : Int32) (v3 : Int32) (H : Heap) (locs : List Loc) (ls : Array Slot), IX G s H locs σ τ → lv_has ls 4 [(0, .ref (G.2.1 0)), (1, .int x1), (2, .int v2), (3, .int v3)] → (Int32.toInt ((1 : Int32) <<< ((f8_bearers 10 σ) &&& 31)) - Int32.toInt v3).toNat < fu → E = (f11_roster_c28 σ x1 fu v2 v3) → W p l e (rmN 4) s m args below meth c H locs 0 0 (MQ below ((Qi G (Ei E σ τ)) s.heap.size) args s 0 0 (AW G s.heap.size)) (F0 m 28 ls []) := by
  intro fu
  induction fu with
  | zero =>
    intro v2 v3 H locs ls I hl  hm hE
    exact absurd hm (Nat.not_lt_zero _)
  | succ fu ih =>
    intro v2 v3 H locs ls I hl  hm hE
    refine lv_iload_n X.1 X.2.1 dX11_roster_28 rfl (lv_at hl 3 rfl) ?_
    refine lv_iconst (v := 1) X.1 X.2.1 dX11_roster_29 (by decide) ?_
    refine lv_aload_n X.1 X.2.1 dX11_roster_30 rfl (lv_at hl 0 rfl) ?_
    refine g11_3 X I (k := 0) (by decide) rfl lf_X11_35 dX11_roster_31 ?_
    refine r_ei I (r_runV X I pk_X8_bearers (c8_bearers l G (k := 10) ⟨by decide, rfl, rfl, rfl⟩ _ _) lm_X11_191 (by decide) (cl_8 rfl) rfl rfl rfl hl.1 rfl (Nat.le_of_ble_eq_true rfl) dX11_roster_34 ⟨Nat.le_of_ble_eq_true rfl, Nat.le_of_ble_eq_true rfl⟩ ⟨Nat.le_refl 0, Nat.le_refl 0⟩) (fun H locs I => ?_)
    refine lv_ishl X.1 X.2.1 dX11_roster_37 ?_
    refine lv_icmp_ge (tgt := 74) X.1 X.2.1 dX11_roster_38 (by decide) (fun c_4 => ?_) (fun c_4 => ?_)
    · skip
      have hE := ite_t hE c_4
      refine lv_iload_n X.1 X.2.1 dX11_roster_74 rfl (lv_at hl 2 rfl) ?_
      have h9 := hE
      exact r_iret X I (e_i h9.symm rfl rfl) dX11_roster_75
    · skip
      have hE := ite_f hE c_4
      refine lv_aload_n X.1 X.2.1 dX11_roster_41 rfl (lv_at hl 0 rfl) ?_
      refine lv_iload_n X.1 X.2.1 dX11_roster_42 rfl (lv_at hl 3 rfl) ?_
      refine r_ei I (r_runV X I pk_X11_strengthOfAll (c11_strengthOfAll l G _ _ _) lm_X11_342 (by decide) (cl_11 rfl) rfl rfl rfl hl.1 rfl (Nat.le_of_ble_eq_true rfl) dX11_roster_43 ⟨Nat.le_of_ble_eq_true rfl, Nat.le_of_ble_eq_true rfl⟩ ⟨Nat.le_refl 0, Nat.le_refl 0⟩) (fun H locs I => ?_)
      refine lv_iload_n X.1 X.2.1 dX11_roster_46 rfl (lv_at hl 1 rfl) ?_
      refine lv_icmp_lt (tgt := 68) X.1 X.2.1 dX11_roster_47 (by decide) (fun c_5 => ?_) (fun c_5 => ?_)
      · skip
        have hE := ite_t hE c_5
        refine lv_iinc (v := _ + 1) (lv' := [(3, .int _), (0, .ref _), (1, .int _), (2, .int _)]) X.1 X.2.1 dX11_roster_68 hl (k := 3) rfl rfl (by decide) rfl (fun ls hl => ?_)
        refine lv_goto (tgt := 28) X.1 X.2.1 dX11_roster_71 (by decide) ?_
        exact ih _ _ _ _ _ I (lv_sub hl [1, 2, 3, 0] rfl) (Nat.lt_of_lt_of_le (up_dec c_4) (Nat.le_of_lt_succ hm)) (hE.trans (rfl))
      · skip
        have hE := ite_f hE c_5
        refine lv_iload_n X.1 X.2.1 dX11_roster_50 rfl (lv_at hl 2 rfl) ?_
        refine lv_iconst (v := (-1)) X.1 X.2.1 dX11_roster_51 (by decide) ?_
        refine lv_icmp_eq (tgt := 66) X.1 X.2.1 dX11_roster_52 (by decide) (fun c_6 => ?_) (fun c_6 => ?_)
        · skip
          have hE := ite_t hE c_6
          refine lv_iload_n X.1 X.2.1 dX11_roster_66 rfl (lv_at hl 3 rfl) ?_
          refine lv_istore_n (lv' := [(2, .int _), (0, .ref _), (1, .int _), (3, .int _)]) X.1 X.2.1 dX11_roster_67 rfl hl (by decide) rfl (fun ls hl => ?_)
          refine lv_iinc (v := _ + 1) (lv' := [(3, .int _), (2, .int _), (0, .ref _), (1, .int _)]) X.1 X.2.1 dX11_roster_68 hl (k := 3) rfl rfl (by decide) rfl (fun ls hl => ?_)
          refine lv_goto (tgt := 28) X.1 X.2.1 dX11_roster_71 (by decide) ?_
          exact ih _ _ _ _ _ I (lv_sub hl [2, 3, 1, 0] rfl) (Nat.lt_of_lt_of_le (up_dec c_4) (Nat.le_of_lt_succ hm)) (hE.trans (rfl))
        · skip
          have hE := ite_f hE c_6
          refine lv_iload_n X.1 X.2.1 dX11_roster_55 rfl (lv_at hl 3 rfl) ?_
          refine r_ei I (r_runS X I pk_J6_bitCount_0f7a4 (cbitCount l G _ _ _) lm_X11_345 rfl hl.1 rfl (Nat.le_of_ble_eq_true rfl) dX11_roster_56 ⟨Nat.le_of_ble_eq_true rfl, Nat.le_of_ble_eq_true rfl⟩ ⟨Nat.le_refl 0, Nat.le_refl 0⟩) (fun H locs I => ?_)
          refine lv_iload_n X.1 X.2.1 dX11_roster_59 rfl (lv_at hl 2 rfl) ?_
          refine r_ei I (r_runS X I pk_J6_bitCount_0f7a4 (cbitCount l G _ _ _) lm_X11_345 rfl hl.1 rfl (Nat.le_of_ble_eq_true rfl) dX11_roster_60 ⟨Nat.le_of_ble_eq_true rfl, Nat.le_of_ble_eq_true rfl⟩ ⟨Nat.le_refl 0, Nat.le_refl 0⟩) (fun H locs I => ?_)
          refine lv_icmp_ge (tgt := 68) X.1 X.2.1 dX11_roster_63 (by decide) (fun c_7 => ?_) (fun c_7 => ?_)
          · skip
            have hE := ite_t hE c_7
            refine lv_iinc (v := _ + 1) (lv' := [(3, .int _), (0, .ref _), (1, .int _), (2, .int _)]) X.1 X.2.1 dX11_roster_68 hl (k := 3) rfl rfl (by decide) rfl (fun ls hl => ?_)
            refine lv_goto (tgt := 28) X.1 X.2.1 dX11_roster_71 (by decide) ?_
            exact ih _ _ _ _ _ I (lv_sub hl [1, 2, 3, 0] rfl) (Nat.lt_of_lt_of_le (up_dec c_4) (Nat.le_of_lt_succ hm)) (hE.trans (rfl))
          · skip
            have hE := ite_f hE c_7
            refine lv_iload_n X.1 X.2.1 dX11_roster_66 rfl (lv_at hl 3 rfl) ?_
            refine lv_istore_n (lv' := [(2, .int _), (0, .ref _), (1, .int _), (3, .int _)]) X.1 X.2.1 dX11_roster_67 rfl hl (by decide) rfl (fun ls hl => ?_)
            refine lv_iinc (v := _ + 1) (lv' := [(3, .int _), (2, .int _), (0, .ref _), (1, .int _)]) X.1 X.2.1 dX11_roster_68 hl (k := 3) rfl rfl (by decide) rfl (fun ls hl => ?_)
            refine lv_goto (tgt := 28) X.1 X.2.1 dX11_roster_71 (by decide) ?_
            exact ih _ _ _ _ _ I (lv_sub hl [2, 3, 1, 0] rfl) (Nat.lt_of_lt_of_le (up_dec c_4) (Nat.le_of_lt_succ hm)) (hE.trans (rfl))
set_option maxHeartbeats 4000000 in
set_option maxRecDepth 100000 in
theorem c11_roster (l : Launch) (G : GT) (σ : SI) (τ : SL) (x1 : Int32) : Mc l yX11_roster cX11_roster 4 (some .int) 4 G [.ref (G.2.1 0), .int x1] σ τ (Qi G (Ei (f11_roster σ x1) σ τ)) := by
  refine m_start (by decide +kernel) (Nat.le_of_ble_eq_true rfl) rfl (fun p e s m args below meth c ls X I hl => ?_)
  have hl : lv_has ls 4 [(0, .ref (G.2.1 0)), (1, .int x1)] := hl
  obtain ⟨E, hE⟩ : ∃ E, E = (f11_roster σ x1) := ⟨_, rfl⟩
  rw [← hE]
  refine lv_aload_n X.1 X.2.1 dX11_roster_0 rfl (lv_at hl 0 rfl) ?_
  refine g11_3 X I (k := 0) (by decide) rfl lf_X11_35 dX11_roster_1 ?_
  refine r_ei I (r_runV X I pk_X8_isTold (c8_isTold l G (k := 10) ⟨by decide, rfl, rfl, rfl⟩ _ _) lm_X11_154 (by decide) (cl_8 rfl) rfl rfl rfl hl.1 rfl (Nat.le_of_ble_eq_true rfl) dX11_roster_4 ⟨Nat.le_of_ble_eq_true rfl, Nat.le_of_ble_eq_true rfl⟩ ⟨Nat.le_refl 0, Nat.le_refl 0⟩) (fun H locs I => ?_)
  refine lv_if_eq (tgt := 22) X.1 X.2.1 dX11_roster_7 (by decide) (fun c_1 => ?_) (fun c_1 => ?_)
  · skip
    have hE := ite_f hE (b2i_n c_1)
    refine lv_iconst (v := (-1)) X.1 X.2.1 dX11_roster_22 (by decide) ?_
    have h9 := hE
    exact r_iret X I (e_i h9.symm rfl rfl) dX11_roster_23
  · skip
    have hE := ite_t hE (b2i_y c_1)
    refine lv_iload_n X.1 X.2.1 dX11_roster_10 rfl (lv_at hl 1 rfl) ?_
    refine lv_iconst (v := 1) X.1 X.2.1 dX11_roster_11 (by decide) ?_
    refine lv_icmp_lt (tgt := 22) X.1 X.2.1 dX11_roster_12 (by decide) (fun c_2 => ?_) (fun c_2 => ?_)
    · skip
      have hE := ite_t hE c_2
      refine lv_iconst (v := (-1)) X.1 X.2.1 dX11_roster_22 (by decide) ?_
      have h9 := hE
      exact r_iret X I (e_i h9.symm rfl rfl) dX11_roster_23
    · skip
      have hE := ite_f hE c_2
      refine lv_iload_n X.1 X.2.1 dX11_roster_15 rfl (lv_at hl 1 rfl) ?_
      refine lv_sipush (v := 200) X.1 X.2.1 dX11_roster_16 (by decide) ?_
      refine lv_icmp_le (tgt := 24) X.1 X.2.1 dX11_roster_19 (by decide) (fun c_3 => ?_) (fun c_3 => ?_)
      · skip
        have hE := ite_t hE c_3
        refine lv_iconst (v := (-1)) X.1 X.2.1 dX11_roster_24 (by decide) ?_
        refine lv_istore_n (lv' := [(2, .int _), (0, .ref _), (1, .int _)]) X.1 X.2.1 dX11_roster_25 rfl hl (by decide) rfl (fun ls hl => ?_)
        refine lv_iconst (v := 1) X.1 X.2.1 dX11_roster_26 (by decide) ?_
        refine lv_istore_n (lv' := [(3, .int _), (2, .int _), (0, .ref _), (1, .int _)]) X.1 X.2.1 dX11_roster_27 rfl hl (by decide) rfl (fun ls hl => ?_)
        exact c11_roster_c28 X _ _ _ _ _ _ _ _ _ I (lv_sub hl [2, 3, 1, 0] rfl) (fu1_lt _) (hE.trans (rfl))
      · skip
        have hE := ite_f hE c_3
        refine lv_iconst (v := (-1)) X.1 X.2.1 dX11_roster_22 (by decide) ?_
        have h9 := hE
        exact r_iret X I (e_i h9.symm rfl rfl) dX11_roster_23
