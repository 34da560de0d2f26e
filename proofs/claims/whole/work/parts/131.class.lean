noncomputable def f11_rests_c65 (σ : SI) (x1 : Int32) (x2 : Int32) (x3 : Int32) (K : Int32 → Int32 → (Int32 × SI)) : Nat → Int32 → Int32 → (Int32 × SI)
  | 0, v4, v5 => (K v4 v5)
  | fu + 1, v4, v5 => if (100 : Int32) ≤ v5 then (K v4 v5) else (if (f11_isBest 41 10 σ (v5 / (10 : Int32)) (v5 - v5 / (10 : Int32) * (10 : Int32))) = true then (if (f11_isBest 42 10 σ (v5 - v5 / (10 : Int32) * (10 : Int32)) (v5 / (10 : Int32))) = true then (if v4 = x3 then (v5, σ) else (f11_rests_c65 σ x1 x2 x3 K fu (v4 + 1) (v5 + 1))) else (f11_rests_c65 σ x1 x2 x3 K fu v4 (v5 + 1))) else (f11_rests_c65 σ x1 x2 x3 K fu v4 (v5 + 1)))
noncomputable def f11_rests_c14 (x1 : Int32) (x2 : Int32) (x3 : Int32) : Nat → Int32 → SI → (Int32 × SI)
  | 0, _, σ => (0, σ)
  | fu + 1, v4, σ => if (10 : Int32) ≤ v4 then (f11_rests_c65 σ x1 x2 x3 (fun (y1_4 : Int32) (y1_5 : Int32) => if x3 = (-1 : Int32) then (y1_4, σ) else ((-1 : Int32), σ)) (fu1 ((Int32.toInt (100 : Int32) - Int32.toInt (0 : Int32)).toNat)) (0 : Int32) (0 : Int32)) else (let r0 := (f11_standsClaimed σ x1 v4); let s1 := (f11_setCell 41 10 r0.2 v4 r0.1); let r2 := (f11_standsClaimed s1 x2 v4); let s3 := (f11_setCell 42 10 r2.2 v4 r2.1); (f11_rests_c14 x1 x2 x3 fu (v4 + 1) s3))
noncomputable def f11_rests (σ : SI) (x1 : Int32) (x2 : Int32) (x3 : Int32) : Int32 × SI := if (f11_arePlaying σ x1 x2) = true then (f11_rests_c14 x1 x2 x3 (fu1 ((Int32.toInt (10 : Int32) - Int32.toInt (0 : Int32)).toNat)) (0 : Int32) σ) else ((-1 : Int32), σ)
theorem w_f11_rests_c65 (x1 : Int32) (x2 : Int32) (x3 : Int32) (σ : SI) {K : Int32 → Int32 → (Int32 × SI)} (a : Nat) (h0 : a ≠ 13) (h1 : a ≠ 15) (h2 : a ≠ 41) (h3 : a ≠ 42) (hK : ∀ (v4 : Int32) (v5 : Int32), (K v4 v5).2 a = σ a) : ∀ (fu : Nat) (v4 : Int32) (v5 : Int32), (f11_rests_c65 σ x1 x2 x3 K fu v4 v5).2 a = σ a := by
  intro fu
  induction fu with
  | zero => intro v4 v5; exact hK v4 v5
  | succ fu ih =>
    intro v4 v5
    refine fp_to2 ?_
    unfold f11_rests_c65
    exact (fr_ite2 (fp_of2 ((hK _ _))) (fr_ite2 (fr_ite2 (fr_ite2 (fr_mk21 rfl) (fp_of2 ((ih _ _)))) (fp_of2 ((ih _ _)))) (fp_of2 ((ih _ _)))))
theorem w_f11_rests_c14 (x1 : Int32) (x2 : Int32) (x3 : Int32) (a : Nat) (h0 : a ≠ 13) (h1 : a ≠ 15) (h2 : a ≠ 41) (h3 : a ≠ 42) : ∀ (fu : Nat) (v4 : Int32) (σ : SI), (f11_rests_c14 x1 x2 x3 fu v4 σ).2 a = σ a := by
  intro fu
  induction fu with
  | zero => intro v4 σ; exact rfl
  | succ fu ih =>
    intro v4 σ
    refine fp_to2 ?_
    unfold f11_rests_c14
    exact (fr_ite2 (fp_of2 ((w_f11_rests_c65 _ _ _ _ a h0 h1 h2 h3 (fun y1_4 y1_5 => (fp_to2 ((fr_ite2 (fr_mk21 rfl) (fr_mk21 rfl))))) _ _ _))) (fp_of2 (((ih _ _).trans ((w_f11_setCell _ _ _ a h3).trans ((w_f11_standsClaimed _ _ _ a h0 h1).trans ((w_f11_setCell _ _ _ a h2).trans (w_f11_standsClaimed _ _ _ a h0 h1))))))))
theorem w_f11_rests (σ : SI) (x1 : Int32) (x2 : Int32) (x3 : Int32) (a : Nat) (h0 : a ≠ 13) (h1 : a ≠ 15) (h2 : a ≠ 41) (h3 : a ≠ 42) : (f11_rests σ x1 x2 x3).2 a = σ a := by
  refine fp_to2 ?_
  unfold f11_rests
  exact (fr_ite2 (fp_of2 ((w_f11_rests_c14 _ _ _ a h0 h1 h2 h3 _ _ _))) (fr_mk21 rfl))
set_option maxHeartbeats 4000000 in
set_option maxRecDepth 100000 in
theorem c11_rests_c65 {l : Launch} {p : Program} {e : Env} {s : State} {m : MethodId} {args : Array Value} {below : List Frame} {meth : Method} {c : Code} {G : GT} (X : CX p s m args meth c cX11_rests RX11 6 (some .int) G) {E : Int32 × SI} (σ : SI) (τ : SL) (x1 : Int32) (x2 : Int32) (x3 : Int32) {K : Int32 → Int32 → (Int32 × SI)} (hK : ∀ (v4 : Int32) (v5 : Int32) (H : Heap) (locs : List Loc) (ls : Array Slot), IX G s H locs σ τ → lv_has ls 6 [(0, .ref (G.2.1 0)), (1, .int x1), (2, .int x2), (3, .int x3), (4, .int v4), (5, .int v5)] → E = K v4 v5 → W p l e (rmN 6) s m args below meth c H locs 0 0 (MQ below ((Qi G (Ei E.1 E.2 τ)) s.heap.size) args s 0 0 (AW G s.heap.size)) (F0 m 130 ls [])) : ∀ (fu : Nat) (v4 : Int32) (v5 : Int32) (H : Heap) (locs : List Loc) (ls : Array Slot), IX G s H locs σ τ → lv_has ls 6 [(0, .ref (G.2.1 0)), (1, .int x1), (2, .int x2), (3, .int x3), (4, .int v4), (5, .int v5)] → (Int32.toInt (100 : Int32) - Int32.toInt v5).toNat < fu → E = (f11_rests_c65 σ x1 x2 x3 K fu v4 v5) → W p l e (rmN 6) s m args below meth c H locs 0 0 (MQ below ((Qi G (Ei E.1 E.2 τ)) s.heap.size) args s 0 0 (AW G s.heap.size)) (F0 m 65 ls []) := by
  intro fu
  induction fu with
  | zero =>
    intro v4 v5 H locs ls I hl  hm hE
    exact absurd hm (Nat.not_lt_zero _)
  | succ fu ih =>
    intro v4 v5 H locs ls I hl  hm hE
    refine lv_iload X.1 X.2.1 dX11_rests_65 (lv_at hl 5 rfl) ?_
    refine lv_bipush (v := 100) X.1 X.2.1 dX11_rests_67 (by decide) ?_
    refine lv_icmp_ge (tgt := 130) X.1 X.2.1 dX11_rests_69 (by decide) (fun c_3 => ?_) (fun c_3 => ?_)
    · skip
      have hE := ite_t hE c_3
      exact hK _ _ _ _ _ I (lv_sub hl [0, 1, 2, 3, 4, 5] rfl) (hE.trans (rfl))
    · skip
      have hE := ite_f hE c_3
      refine lv_aload_n X.1 X.2.1 dX11_rests_72 rfl (lv_at hl 0 rfl) ?_
      refine g11_12 X I (k := 0) (by decide) rfl lf_X11_90 dX11_rests_73 ?_
      refine lv_iload X.1 X.2.1 dX11_rests_76 (lv_at hl 5 rfl) ?_
      refine lv_bipush (v := 10) X.1 X.2.1 dX11_rests_78 (by decide) ?_
      refine lv_idiv X.1 X.2.1 dX11_rests_80 (by decide) ?_
      refine lv_iload X.1 X.2.1 dX11_rests_81 (lv_at hl 5 rfl) ?_
      refine lv_bipush (v := 10) X.1 X.2.1 dX11_rests_83 (by decide) ?_
      refine lv_irem X.1 X.2.1 dX11_rests_85 (by decide) ?_
      refine r_ei I (r_runS X I pk_X11_isBest (c11_isBest l G (k := 41) (n := 10) (by decide) rfl (by decide) _ _ _ _) lm_X11_399 rfl hl.1 rfl (Nat.le_of_ble_eq_true rfl) dX11_rests_86 ⟨Nat.le_of_ble_eq_true rfl, Nat.le_of_ble_eq_true rfl⟩ ⟨Nat.le_refl 0, Nat.le_refl 0⟩) (fun H locs I => ?_)
      refine lv_if_eq (tgt := 124) X.1 X.2.1 dX11_rests_89 (by decide) (fun c_4 => ?_) (fun c_4 => ?_)
      · skip
        have hE := ite_f hE (b2i_n c_4)
        refine lv_iinc (v := _ + 1) (lv' := [(5, .int _), (0, .ref _), (1, .int _), (2, .int _), (3, .int _), (4, .int _)]) X.1 X.2.1 dX11_rests_124 hl (k := 5) rfl rfl (by decide) rfl (fun ls hl => ?_)
        refine lv_goto (tgt := 65) X.1 X.2.1 dX11_rests_127 (by decide) ?_
        exact ih _ _ _ _ _ I (lv_sub hl [1, 2, 3, 4, 5, 0] rfl) (Nat.lt_of_lt_of_le (up_dec c_3) (Nat.le_of_lt_succ hm)) (hE.trans (rfl))
      · skip
        have hE := ite_t hE (b2i_y c_4)
        refine lv_aload_n X.1 X.2.1 dX11_rests_92 rfl (lv_at hl 0 rfl) ?_
        refine g11_13 X I (k := 0) (by decide) rfl lf_X11_93 dX11_rests_93 ?_
        refine lv_iload X.1 X.2.1 dX11_rests_96 (lv_at hl 5 rfl) ?_
        refine lv_bipush (v := 10) X.1 X.2.1 dX11_rests_98 (by decide) ?_
        refine lv_irem X.1 X.2.1 dX11_rests_100 (by decide) ?_
        refine lv_iload X.1 X.2.1 dX11_rests_101 (lv_at hl 5 rfl) ?_
        refine lv_bipush (v := 10) X.1 X.2.1 dX11_rests_103 (by decide) ?_
        refine lv_idiv X.1 X.2.1 dX11_rests_105 (by decide) ?_
        refine r_ei I (r_runS X I pk_X11_isBest (c11_isBest l G (k := 42) (n := 10) (by decide) rfl (by decide) _ _ _ _) lm_X11_399 rfl hl.1 rfl (Nat.le_of_ble_eq_true rfl) dX11_rests_106 ⟨Nat.le_of_ble_eq_true rfl, Nat.le_of_ble_eq_true rfl⟩ ⟨Nat.le_refl 0, Nat.le_refl 0⟩) (fun H locs I => ?_)
        refine lv_if_eq (tgt := 124) X.1 X.2.1 dX11_rests_109 (by decide) (fun c_5 => ?_) (fun c_5 => ?_)
        · skip
          have hE := ite_f hE (b2i_n c_5)
          refine lv_iinc (v := _ + 1) (lv' := [(5, .int _), (0, .ref _), (1, .int _), (2, .int _), (3, .int _), (4, .int _)]) X.1 X.2.1 dX11_rests_124 hl (k := 5) rfl rfl (by decide) rfl (fun ls hl => ?_)
          refine lv_goto (tgt := 65) X.1 X.2.1 dX11_rests_127 (by decide) ?_
          exact ih _ _ _ _ _ I (lv_sub hl [1, 2, 3, 4, 5, 0] rfl) (Nat.lt_of_lt_of_le (up_dec c_3) (Nat.le_of_lt_succ hm)) (hE.trans (rfl))
        · skip
          have hE := ite_t hE (b2i_y c_5)
          refine lv_iload X.1 X.2.1 dX11_rests_112 (lv_at hl 4 rfl) ?_
          refine lv_iload_n X.1 X.2.1 dX11_rests_114 rfl (lv_at hl 3 rfl) ?_
          refine lv_icmp_ne (tgt := 121) X.1 X.2.1 dX11_rests_115 (by decide) (fun c_6 => ?_) (fun c_6 => ?_)
          · skip
            have hE := ite_f hE c_6
            refine lv_iinc (v := _ + 1) (lv' := [(4, .int _), (0, .ref _), (1, .int _), (2, .int _), (3, .int _), (5, .int _)]) X.1 X.2.1 dX11_rests_121 hl (k := 4) rfl rfl (by decide) rfl (fun ls hl => ?_)
            refine lv_iinc (v := _ + 1) (lv' := [(5, .int _), (4, .int _), (0, .ref _), (1, .int _), (2, .int _), (3, .int _)]) X.1 X.2.1 dX11_rests_124 hl (k := 5) rfl rfl (by decide) rfl (fun ls hl => ?_)
            refine lv_goto (tgt := 65) X.1 X.2.1 dX11_rests_127 (by decide) ?_
            exact ih _ _ _ _ _ I (lv_sub hl [2, 3, 4, 5, 1, 0] rfl) (Nat.lt_of_lt_of_le (up_dec c_3) (Nat.le_of_lt_succ hm)) (hE.trans (rfl))
          · skip
            have hE := ite_t hE c_6
            refine lv_iload X.1 X.2.1 dX11_rests_118 (lv_at hl 5 rfl) ?_
            have h9 := hE
            exact r_iret X I (e_i (pr_fst h9) (pr_snd h9) rfl) dX11_rests_120
set_option maxHeartbeats 4000000 in
set_option maxRecDepth 100000 in
theorem c11_rests_c14 {l : Launch} {p : Program} {e : Env} {s : State} {m : MethodId} {args : Array Value} {below : List Frame} {meth : Method} {c : Code} {G : GT} (X : CX p s m args meth c cX11_rests RX11 6 (some .int) G) {E : Int32 × SI} (τ : SL) (x1 : Int32) (x2 : Int32) (x3 : Int32) : ∀ (fu : Nat) (v4 : Int32) (σ : SI) (H : Heap) (locs : List Loc) (ls : Array Slot), IX G s H locs σ τ → lv_has ls 6 [(0, .ref (G.2.1 0)), (1, .int x1), (2, .int x2), (3, .int x3), (4, .int v4)] → (Int32.toInt (10 : Int32) - Int32.toInt v4).toNat < fu → E = (f11_rests_c14 x1 x2 x3 fu v4 σ) → W p l e (rmN 6) s m args below meth c H locs 0 0 (MQ below ((Qi G (Ei E.1 E.2 τ)) s.heap.size) args s 0 0 (AW G s.heap.size)) (F0 m 14 ls []) := by
  intro fu
  induction fu with
  | zero =>
    intro v4 σ H locs ls I hl  hm hE
    exact absurd hm (Nat.not_lt_zero _)
  | succ fu ih =>
    intro v4 σ H locs ls I hl  hm hE
    refine lv_iload X.1 X.2.1 dX11_rests_14 (lv_at hl 4 rfl) ?_
    refine lv_bipush (v := 10) X.1 X.2.1 dX11_rests_16 (by decide) ?_
    refine lv_icmp_ge (tgt := 59) X.1 X.2.1 dX11_rests_18 (by decide) (fun c_2 => ?_) (fun c_2 => ?_)
    · skip
      have hE := ite_t hE c_2
      refine lv_iconst (v := 0) X.1 X.2.1 dX11_rests_59 (by decide) ?_
      refine lv_istore (lv' := [(4, .int _), (0, .ref _), (1, .int _), (2, .int _), (3, .int _)]) X.1 X.2.1 dX11_rests_60 hl (by decide) rfl (fun ls hl => ?_)
      refine lv_iconst (v := 0) X.1 X.2.1 dX11_rests_62 (by decide) ?_
      refine lv_istore (lv' := [(5, .int _), (4, .int _), (0, .ref _), (1, .int _), (2, .int _), (3, .int _)]) X.1 X.2.1 dX11_rests_63 hl (by decide) rfl (fun ls hl => ?_)
      refine c11_rests_c65 X _ _ _ _ _ (fun y1_4 y1_5 H locs ls I hl hE => ?_) _ _ _ _ _ _ I (lv_sub hl [2, 3, 4, 5, 1, 0] rfl) (fu1_lt _) (hE.trans (rfl))
      refine lv_iload_n X.1 X.2.1 dX11_rests_130 rfl (lv_at hl 3 rfl) ?_
      refine lv_iconst (v := (-1)) X.1 X.2.1 dX11_rests_131 (by decide) ?_
      refine lv_icmp_ne (tgt := 140) X.1 X.2.1 dX11_rests_132 (by decide) (fun c_7 => ?_) (fun c_7 => ?_)
      · skip
        have hE := ite_f hE c_7
        refine lv_iconst (v := (-1)) X.1 X.2.1 dX11_rests_140 (by decide) ?_
        have h9 := hE
        exact r_iret X I (e_i (pr_fst h9) (pr_snd h9) rfl) dX11_rests_141
      · skip
        have hE := ite_t hE c_7
        refine lv_iload X.1 X.2.1 dX11_rests_135 (lv_at hl 4 rfl) ?_
        refine lv_goto (tgt := 141) X.1 X.2.1 dX11_rests_137 (by decide) ?_
        have h9 := hE
        exact r_iret X I (e_i (pr_fst h9) (pr_snd h9) rfl) dX11_rests_141
    · skip
      have hE := ite_f hE c_2
      refine lv_aload_n X.1 X.2.1 dX11_rests_21 rfl (lv_at hl 0 rfl) ?_
      refine g11_12 X I (k := 0) (by decide) rfl lf_X11_90 dX11_rests_22 ?_
      refine lv_iload X.1 X.2.1 dX11_rests_25 (lv_at hl 4 rfl) ?_
      refine lv_aload_n X.1 X.2.1 dX11_rests_27 rfl (lv_at hl 0 rfl) ?_
      refine lv_iload_n X.1 X.2.1 dX11_rests_28 rfl (lv_at hl 1 rfl) ?_
      refine lv_iload X.1 X.2.1 dX11_rests_29 (lv_at hl 4 rfl) ?_
      refine r_ei I (r_runV X I pk_X11_standsClaimed (c11_standsClaimed l G _ _ _ _) lm_X11_389 (by decide) (cl_11 rfl) rfl rfl rfl hl.1 rfl (Nat.le_of_ble_eq_true rfl) dX11_rests_31 ⟨Nat.le_of_ble_eq_true rfl, Nat.le_of_ble_eq_true rfl⟩ ⟨Nat.le_refl 0, Nat.le_refl 0⟩) (fun H locs I => ?_)
      refine r_ev I (r_runS X I pk_X11_setCell (c11_setCell l G (k := 41) (n := 10) (by decide) rfl (by decide) _ _ _ _) lm_X11_395 rfl hl.1 rfl (Nat.le_of_ble_eq_true rfl) dX11_rests_34 ⟨Nat.le_of_ble_eq_true rfl, Nat.le_of_ble_eq_true rfl⟩ ⟨Nat.le_refl 0, Nat.le_refl 0⟩) (fun H locs I => ?_)
      refine lv_aload_n X.1 X.2.1 dX11_rests_37 rfl (lv_at hl 0 rfl) ?_
      refine g11_13 X I (k := 0) (by decide) rfl lf_X11_93 dX11_rests_38 ?_
      refine lv_iload X.1 X.2.1 dX11_rests_41 (lv_at hl 4 rfl) ?_
      refine lv_aload_n X.1 X.2.1 dX11_rests_43 rfl (lv_at hl 0 rfl) ?_
      refine lv_iload_n X.1 X.2.1 dX11_rests_44 rfl (lv_at hl 2 rfl) ?_
      refine lv_iload X.1 X.2.1 dX11_rests_45 (lv_at hl 4 rfl) ?_
      refine r_ei I (r_runV X I pk_X11_standsClaimed (c11_standsClaimed l G _ _ _ _) lm_X11_389 (by decide) (cl_11 rfl) rfl rfl rfl hl.1 rfl (Nat.le_of_ble_eq_true rfl) dX11_rests_47 ⟨Nat.le_of_ble_eq_true rfl, Nat.le_of_ble_eq_true rfl⟩ ⟨Nat.le_refl 0, Nat.le_refl 0⟩) (fun H locs I => ?_)
      refine r_ev I (r_runS X I pk_X11_setCell (c11_setCell l G (k := 42) (n := 10) (by decide) rfl (by decide) _ _ _ _) lm_X11_395 rfl hl.1 rfl (Nat.le_of_ble_eq_true rfl) dX11_rests_50 ⟨Nat.le_of_ble_eq_true rfl, Nat.le_of_ble_eq_true rfl⟩ ⟨Nat.le_refl 0, Nat.le_refl 0⟩) (fun H locs I => ?_)
      refine lv_iinc (v := _ + 1) (lv' := [(4, .int _), (0, .ref _), (1, .int _), (2, .int _), (3, .int _)]) X.1 X.2.1 dX11_rests_53 hl (k := 4) rfl rfl (by decide) rfl (fun ls hl => ?_)
      refine lv_goto (tgt := 14) X.1 X.2.1 dX11_rests_56 (by decide) ?_
      exact ih _ _ _ _ _ I (lv_sub hl [1, 2, 3, 4, 0] rfl) (Nat.lt_of_lt_of_le (up_dec c_2) (Nat.le_of_lt_succ hm)) (hE.trans (rfl))
set_option maxHeartbeats 4000000 in
set_option maxRecDepth 100000 in
theorem c11_rests (l : Launch) (G : GT) (σ : SI) (τ : SL) (x1 : Int32) (x2 : Int32) (x3 : Int32) : Mc l yX11_rests cX11_rests 6 (some .int) 6 G [.ref (G.2.1 0), .int x1, .int x2, .int x3] σ τ (Qi G (Ei (f11_rests σ x1 x2 x3).1 (f11_rests σ x1 x2 x3).2 τ)) := by
  refine m_start (by decide +kernel) (Nat.le_of_ble_eq_true rfl) rfl (fun p e s m args below meth c ls X I hl => ?_)
  have hl : lv_has ls 6 [(0, .ref (G.2.1 0)), (1, .int x1), (2, .int x2), (3, .int x3)] := hl
  obtain ⟨E, hE⟩ : ∃ E, E = (f11_rests σ x1 x2 x3) := ⟨_, rfl⟩
  rw [← hE]
  refine lv_aload_n X.1 X.2.1 dX11_rests_0 rfl (lv_at hl 0 rfl) ?_
  refine lv_iload_n X.1 X.2.1 dX11_rests_1 rfl (lv_at hl 1 rfl) ?_
  refine lv_iload_n X.1 X.2.1 dX11_rests_2 rfl (lv_at hl 2 rfl) ?_
  refine r_ei I (r_runV X I pk_X11_arePlaying (c11_arePlaying l G _ _ _ _) lm_X11_382 (by decide) (cl_11 rfl) rfl rfl rfl hl.1 rfl (Nat.le_of_ble_eq_true rfl) dX11_rests_3 ⟨Nat.le_of_ble_eq_true rfl, Nat.le_of_ble_eq_true rfl⟩ ⟨Nat.le_refl 0, Nat.le_refl 0⟩) (fun H locs I => ?_)
  refine lv_if_ne (tgt := 11) X.1 X.2.1 dX11_rests_6 (by decide) (fun c_1 => ?_) (fun c_1 => ?_)
  · skip
    have hE := ite_t hE (b2i_y c_1)
    refine lv_iconst (v := 0) X.1 X.2.1 dX11_rests_11 (by decide) ?_
    refine lv_istore (lv' := [(4, .int _), (0, .ref _), (1, .int _), (2, .int _), (3, .int _)]) X.1 X.2.1 dX11_rests_12 hl (by decide) rfl (fun ls hl => ?_)
    exact c11_rests_c14 X _ _ _ _ _ _ _ _ _ _ I (lv_sub hl [1, 2, 3, 4, 0] rfl) (fu1_lt _) (hE.trans (rfl))
  · skip
    have hE := ite_f hE (b2i_n c_1)
    refine lv_iconst (v := (-1)) X.1 X.2.1 dX11_rests_9 (by decide) ?_
    have h9 := hE
    exact r_iret X I (e_i (pr_fst h9) (pr_snd h9) rfl) dX11_rests_10
noncomputable def f11_rivalComes_c7 (σ : SI) (x1 : Int32) : Nat → Int32 → Int32 → Int32 → Int32
  | 0, _, _, _ => 0
  | fu + 1, v2, v3, v4 => if (f8_houses 10 σ) ≤ v4 then (-1 : Int32) else (if (f0_grievanceOf 24 σ v4) = (0 : Int32) then (if v4 = x1 then (v2 + (f8_distance 10 σ v3 v4)) else (f11_rivalComes_c7 σ x1 fu ((v2 + (f8_distance 10 σ v3 v4)) + 2) v4 (v4 + 1))) else (f11_rivalComes_c7 σ x1 fu v2 v3 (v4 + 1)))
noncomputable def f11_rivalComes (σ : SI) (x1 : Int32) : Int32 := (f11_rivalComes_c7 σ x1 (fu1 ((Int32.toInt (f8_houses 10 σ) - Int32.toInt (0 : Int32)).toNat)) (0 : Int32) (-1 : Int32) (0 : Int32))
set_option maxHeartbeats 4000000 in
set_option maxRecDepth 100000 in
theorem c11_rivalComes_c7 {l : Launch} {p : Program} {e : Env} {s : State} {m : MethodId} {args : Array Value} {below : List Frame} {meth : Method} {c : Code} {G : GT} (X : CX p s m args meth c cX11_rivalComes RX11 5 (some .int) G) {E : Int32} (σ : SI) (τ : SL) (x1 : Int32) : ∀ (fu : Nat) (v2 : Int32) (v3 : Int32) (v4 : Int32) (H : Heap) (locs : List Loc) (ls : Array Slot), IX G s H locs σ τ → lv_has ls 5 [(0, .ref (G.2.1 0)), (1, .int x1), (2, .int v2), (3, .int v3), (4, .int v4)] → (Int32.toInt (f8_houses 10 σ) - Int32.toInt v4).toNat < fu → E = (f11_rivalComes_c7 σ x1 fu v2 v3 v4) → W p l e (rmN 3) s m args below meth c H locs 0 0 (MQ below ((Qi G (Ei E σ τ)) s.heap.size) args s 0 0 (AW G s.heap.size)) (F0 m 7 ls []) := by
  intro fu
  induction fu with
  | zero =>
    intro v2 v3 v4 H locs ls I hl  hm hE
    exact absurd hm (Nat.not_lt_zero _)
  | succ fu ih =>
    intro v2 v3 v4 H locs ls I hl  hm hE
    refine lv_iload X.1 X.2.1 dX11_rivalComes_7 (lv_at hl 4 rfl) ?_
    refine lv_aload_n X.1 X.2.1 dX11_rivalComes_9 rfl (lv_at hl 0 rfl) ?_
    refine g11_3 X I (k := 0) (by decide) rfl lf_X11_35 dX11_rivalComes_10 ?_
    refine r_ei I (r_runV X I pk_X8_houses (c8_houses l G (k := 10) ⟨by decide, rfl, rfl, rfl⟩ _ _) lm_X11_151 (by decide) (cl_8 rfl) rfl rfl rfl hl.1 rfl (Nat.le_of_ble_eq_true rfl) dX11_rivalComes_13 ⟨Nat.le_of_ble_eq_true rfl, Nat.le_of_ble_eq_true rfl⟩ ⟨Nat.le_refl 0, Nat.le_refl 0⟩) (fun H locs I => ?_)
    refine lv_icmp_ge (tgt := 64) X.1 X.2.1 dX11_rivalComes_16 (by decide) (fun c_1 => ?_) (fun c_1 => ?_)
    · skip
      have hE := ite_t hE c_1
      refine lv_iconst (v := (-1)) X.1 X.2.1 dX11_rivalComes_64 (by decide) ?_
      have h9 := hE
      exact r_iret X I (e_i h9.symm rfl rfl) dX11_rivalComes_65
    · skip
      have hE := ite_f hE c_1
      refine lv_aload_n X.1 X.2.1 dX11_rivalComes_19 rfl (lv_at hl 0 rfl) ?_
      refine g11_5 X I (k := 0) (by decide) rfl lf_X11_49 dX11_rivalComes_20 ?_
      refine lv_iload X.1 X.2.1 dX11_rivalComes_23 (lv_at hl 4 rfl) ?_
      refine r_ei I (r_runV X I pk_X0_grievanceOf (c0_grievanceOf l G (k := 24) ⟨by decide, rfl, rfl⟩ _ _ _) lm_X11_182 (by decide) (cl_0 rfl) rfl rfl rfl hl.1 rfl (Nat.le_of_ble_eq_true rfl) dX11_rivalComes_25 ⟨Nat.le_of_ble_eq_true rfl, Nat.le_of_ble_eq_true rfl⟩ ⟨Nat.le_refl 0, Nat.le_refl 0⟩) (fun H locs I => ?_)
      refine lv_if_ne (tgt := 58) X.1 X.2.1 dX11_rivalComes_28 (by decide) (fun c_2 => ?_) (fun c_2 => ?_)
      · skip
        have hE := ite_f hE c_2
        refine lv_iinc (v := _ + 1) (lv' := [(4, .int _), (0, .ref _), (1, .int _), (2, .int _), (3, .int _)]) X.1 X.2.1 dX11_rivalComes_58 hl (k := 4) rfl rfl (by decide) rfl (fun ls hl => ?_)
        refine lv_goto (tgt := 7) X.1 X.2.1 dX11_rivalComes_61 (by decide) ?_
        exact ih _ _ _ _ _ _ I (lv_sub hl [1, 2, 3, 4, 0] rfl) (Nat.lt_of_lt_of_le (up_dec c_1) (Nat.le_of_lt_succ hm)) (hE.trans (rfl))
      · skip
        have hE := ite_t hE c_2
        refine lv_iload_n X.1 X.2.1 dX11_rivalComes_31 rfl (lv_at hl 2 rfl) ?_
        refine lv_aload_n X.1 X.2.1 dX11_rivalComes_32 rfl (lv_at hl 0 rfl) ?_
        refine g11_3 X I (k := 0) (by decide) rfl lf_X11_35 dX11_rivalComes_33 ?_
        refine lv_iload_n X.1 X.2.1 dX11_rivalComes_36 rfl (lv_at hl 3 rfl) ?_
        refine lv_iload X.1 X.2.1 dX11_rivalComes_37 (lv_at hl 4 rfl) ?_
        refine r_ei I (r_runV X I pk_X8_distance (c8_distance l G (k := 10) ⟨by decide, rfl, rfl, rfl⟩ _ _ _ _) lm_X11_203 (by decide) (cl_8 rfl) rfl rfl rfl hl.1 rfl (Nat.le_of_ble_eq_true rfl) dX11_rivalComes_39 ⟨Nat.le_of_ble_eq_true rfl, Nat.le_of_ble_eq_true rfl⟩ ⟨Nat.le_refl 0, Nat.le_refl 0⟩) (fun H locs I => ?_)
        refine lv_iadd X.1 X.2.1 dX11_rivalComes_42 ?_
        refine lv_istore_n (lv' := [(2, .int _), (0, .ref _), (1, .int _), (3, .int _), (4, .int _)]) X.1 X.2.1 dX11_rivalComes_43 rfl hl (by decide) rfl (fun ls hl => ?_)
        refine lv_iload X.1 X.2.1 dX11_rivalComes_44 (lv_at hl 4 rfl) ?_
        refine lv_iload_n X.1 X.2.1 dX11_rivalComes_46 rfl (lv_at hl 2 rfl) ?_
        refine lv_icmp_ne (tgt := 52) X.1 X.2.1 dX11_rivalComes_47 (by decide) (fun c_3 => ?_) (fun c_3 => ?_)
        · skip
          have hE := ite_f hE c_3
          refine lv_iinc (v := _ + 2) (lv' := [(2, .int _), (0, .ref _), (1, .int _), (3, .int _), (4, .int _)]) X.1 X.2.1 dX11_rivalComes_52 hl (k := 0) rfl rfl (by decide) rfl (fun ls hl => ?_)
          refine lv_iload X.1 X.2.1 dX11_rivalComes_55 (lv_at hl 4 rfl) ?_
          refine lv_istore_n (lv' := [(3, .int _), (2, .int _), (0, .ref _), (1, .int _), (4, .int _)]) X.1 X.2.1 dX11_rivalComes_57 rfl hl (by decide) rfl (fun ls hl => ?_)
          refine lv_iinc (v := _ + 1) (lv' := [(4, .int _), (3, .int _), (2, .int _), (0, .ref _), (1, .int _)]) X.1 X.2.1 dX11_rivalComes_58 hl (k := 4) rfl rfl (by decide) rfl (fun ls hl => ?_)
          refine lv_goto (tgt := 7) X.1 X.2.1 dX11_rivalComes_61 (by decide) ?_
          exact ih _ _ _ _ _ _ I (lv_sub hl [3, 4, 2, 1, 0] rfl) (Nat.lt_of_lt_of_le (up_dec c_1) (Nat.le_of_lt_succ hm)) (hE.trans (rfl))
        · skip
          have hE := ite_t hE c_3
          refine lv_iload_n X.1 X.2.1 dX11_rivalComes_50 rfl (lv_at hl 0 rfl) ?_
          have h9 := hE
          exact r_iret X I (e_i h9.symm rfl rfl) dX11_rivalComes_51
set_option maxHeartbeats 4000000 in
set_option maxRecDepth 100000 in
theorem c11_rivalComes (l : Launch) (G : GT) (σ : SI) (τ : SL) (x1 : Int32) : Mc l yX11_rivalComes cX11_rivalComes 5 (some .int) 3 G [.ref (G.2.1 0), .int x1] σ τ (Qi G (Ei (f11_rivalComes σ x1) σ τ)) := by
  refine m_start (by decide +kernel) (Nat.le_of_ble_eq_true rfl) rfl (fun p e s m args below meth c ls X I hl => ?_)
  have hl : lv_has ls 5 [(0, .ref (G.2.1 0)), (1, .int x1)] := hl
  obtain ⟨E, hE⟩ : ∃ E, E = (f11_rivalComes σ x1) := ⟨_, rfl⟩
  rw [← hE]
  refine lv_iconst (v := 0) X.1 X.2.1 dX11_rivalComes_0 (by decide) ?_
  refine lv_istore_n (lv' := [(2, .int _), (0, .ref _), (1, .int _)]) X.1 X.2.1 dX11_rivalComes_1 rfl hl (by decide) rfl (fun ls hl => ?_)
  refine lv_iconst (v := (-1)) X.1 X.2.1 dX11_rivalComes_2 (by decide) ?_
  refine lv_istore_n (lv' := [(3, .int _), (2, .int _), (0, .ref _), (1, .int _)]) X.1 X.2.1 dX11_rivalComes_3 rfl hl (by decide) rfl (fun ls hl => ?_)
  refine lv_iconst (v := 0) X.1 X.2.1 dX11_rivalComes_4 (by decide) ?_
  refine lv_istore (lv' := [(4, .int _), (3, .int _), (2, .int _), (0, .ref _), (1, .int _)]) X.1 X.2.1 dX11_rivalComes_5 hl (by decide) rfl (fun ls hl => ?_)
  exact c11_rivalComes_c7 X _ _ _ _ _ _ _ _ _ _ I (lv_sub hl [3, 4, 2, 1, 0] rfl) (fu1_lt _) (hE.trans (rfl))
