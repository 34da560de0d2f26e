noncomputable def f4_goOn_c43 (Gf : SI → Int32 → Int32 → Int32 → SI) (x1 : Int32) (x2 : Int32) (x3 : Int32) (x4 : Int32) (x5 : Int32) (x6 : Int32) (x7 : Int32) : Nat → Int32 → SI → SI
  | 0, _, σ => σ
  | fu + 1, v8, σ => if (f8_houses 10 σ) ≤ v8 then σ else (let r0 := (f4_comesTo σ v8); if r0.1 = true then (let s1 := (f4_consider r0.2 (x1 + (1 : Int32)) ((x2 * (10 : Int32)) + v8) (x3 + (r0.2 32 8))); let s2 := (Gf s1 (x1 + (1 : Int32)) ((x2 * (10 : Int32)) + v8) (x3 + (r0.2 32 8))); let s3 := (f4_stay s2 x4 x5 x6 x7); (f4_goOn_c43 Gf x1 x2 x3 x4 x5 x6 x7 fu (v8 + 1) s3)) else (f4_goOn_c43 Gf x1 x2 x3 x4 x5 x6 x7 fu (v8 + 1) r0.2))
noncomputable def f4_goOn (Gf : SI → Int32 → Int32 → Int32 → SI) (σ : SI) (x1 : Int32) (x2 : Int32) (x3 : Int32) : SI := if (7 : Int32) ≤ x1 then σ else (if (f4_isHopeless σ x1 x3) = true then σ else (f4_goOn_c43 Gf x1 x2 x3 (σ 32 3) (σ 32 4) (σ 32 5) (σ 32 6) (fu1 ((Int32.toInt (f8_houses 10 σ) - Int32.toInt (0 : Int32)).toNat)) (0 : Int32) σ))
theorem w_f4_goOn_c43 {Gf : SI → Int32 → Int32 → Int32 → SI} (hGf : ∀ (σ : SI) (x1 : Int32) (x2 : Int32) (x3 : Int32) (b : Nat), b ≠ 13 → b ≠ 15 → b ≠ 32 → (Gf σ x1 x2 x3) b = σ b) (x1 : Int32) (x2 : Int32) (x3 : Int32) (x4 : Int32) (x5 : Int32) (x6 : Int32) (x7 : Int32) (a : Nat) (h0 : a ≠ 13) (h1 : a ≠ 15) (h2 : a ≠ 32) : ∀ (fu : Nat) (v8 : Int32) (σ : SI), (f4_goOn_c43 Gf x1 x2 x3 x4 x5 x6 x7 fu v8 σ) a = σ a := by
  intro fu
  induction fu with
  | zero => intro v8 σ; exact rfl
  | succ fu ih =>
    intro v8 σ
    unfold f4_goOn_c43
    exact (fr_ite rfl (fr_ite ((ih _ _).trans ((w_f4_stay _ _ _ _ _ a h2).trans ((hGf _ _ _ _ a h0 h1 h2).trans ((w_f4_consider _ _ _ _ a h2).trans (w_f4_comesTo _ _ a h0 h1 h2))))) ((ih _ _).trans (w_f4_comesTo _ _ a h0 h1 h2))))
theorem w_f4_goOn {Gf : SI → Int32 → Int32 → Int32 → SI} (hGf : ∀ (σ : SI) (x1 : Int32) (x2 : Int32) (x3 : Int32) (b : Nat), b ≠ 13 → b ≠ 15 → b ≠ 32 → (Gf σ x1 x2 x3) b = σ b) (σ : SI) (x1 : Int32) (x2 : Int32) (x3 : Int32) (a : Nat) (h0 : a ≠ 13) (h1 : a ≠ 15) (h2 : a ≠ 32) : (f4_goOn Gf σ x1 x2 x3) a = σ a := by
  unfold f4_goOn
  exact (fr_ite rfl (fr_ite rfl (w_f4_goOn_c43 hGf _ _ _ _ _ _ _ a h0 h1 h2 _ _ _)))
set_option maxHeartbeats 4000000 in
set_option maxRecDepth 100000 in
theorem c4_goOn_c43 {l : Launch} {p : Program} {e : Env} {s : State} {m : MethodId} {args : Array Value} {below : List Frame} {meth : Method} {c : Code} {G : GT} (X : CX p s m args meth c cX4_goOn RX4 10 none G) {Gf : SI → Int32 → Int32 → Int32 → SI} {D : Nat} (hG : ∀ (σ : SI) (τ : SL) (x1 : Int32) (x2 : Int32) (x3 : Int32), (Int32.toInt 7 - Int32.toInt x1).toNat < D → Mc l yX4_goOn cX4_goOn 10 none (20 + D) G [.ref (G.2.1 32), .int x1, .int x2, .int x3] σ τ (Qv G (Ev (Gf σ x1 x2 x3) τ))) (hGf : ∀ (σ : SI) (x1 : Int32) (x2 : Int32) (x3 : Int32) (b : Nat), b ≠ 13 → b ≠ 15 → b ≠ 32 → (Gf σ x1 x2 x3) b = σ b) {E : SI} (τ : SL) (x1 : Int32) (x2 : Int32) (x3 : Int32) (x4 : Int32) (x5 : Int32) (x6 : Int32) (x7 : Int32) (hx : (Int32.toInt 7 - Int32.toInt x1).toNat < D + 1) : ∀ (fu : Nat) (v8 : Int32) (σ : SI) (H : Heap) (locs : List Loc) (ls : Array Slot), IX G s H locs σ τ → lv_has ls 10 [(0, .ref (G.2.1 32)), (1, .int x1), (2, .int x2), (3, .int x3), (4, .int x4), (5, .int x5), (6, .int x6), (7, .int x7), (8, .int v8)] → ¬ (7 : Int32) ≤ x1 → (Int32.toInt (f8_houses 10 σ) - Int32.toInt v8).toNat < fu → E = (f4_goOn_c43 Gf x1 x2 x3 x4 x5 x6 x7 fu v8 σ) → W p l e (rmN (20 + D + 1)) s m args below meth c H locs 0 0 (MQ below ((Qv G (Ev E τ)) s.heap.size) args s 0 0 (AW G s.heap.size)) (F0 m 43 ls []) := by
  intro fu
  induction fu with
  | zero =>
    intro v8 σ H locs ls I hl hc hm hE
    exact absurd hm (Nat.not_lt_zero _)
  | succ fu ih =>
    intro v8 σ H locs ls I hl hc hm hE
    refine lv_iload X.1 X.2.1 dX4_goOn_43 (lv_at hl 8 rfl) ?_
    refine lv_aload_n X.1 X.2.1 dX4_goOn_45 rfl (lv_at hl 0 rfl) ?_
    refine g4_0 X I (k := 32) (by decide) rfl lf_X4_9 dX4_goOn_46 ?_
    refine r_ei I (r_runV X I pk_X8_houses (c8_houses l G (k := 10) ⟨by decide, rfl, rfl, rfl⟩ _ _) lm_X4_121 (by decide) (cl_8 rfl) rfl rfl rfl hl.1 rfl (Nat.le_of_ble_eq_true rfl) dX4_goOn_49 (hr_le (by omega) (by decide)) ⟨Nat.le_refl 0, Nat.le_refl 0⟩) (fun H locs I => ?_)
    refine lv_icmp_ge (tgt := 122) X.1 X.2.1 dX4_goOn_52 (by decide) (fun c_3 => ?_) (fun c_3 => ?_)
    · skip
      have hE := ite_t hE c_3
      have h9 := hE
      exact r_vret X I (e_v h9.symm rfl) dX4_goOn_122
    · skip
      have hE := ite_f hE c_3
      refine lv_aload_n X.1 X.2.1 dX4_goOn_55 rfl (lv_at hl 0 rfl) ?_
      refine lv_iload X.1 X.2.1 dX4_goOn_56 (lv_at hl 8 rfl) ?_
      refine r_ei I (r_runV X I pk_X4_comesTo (c4_comesTo l G _ _ _) lm_X4_124 (by decide) (cl_4 rfl) rfl rfl rfl hl.1 rfl (Nat.le_of_ble_eq_true rfl) dX4_goOn_58 (hr_le (by omega) (by decide)) ⟨Nat.le_refl 0, Nat.le_refl 0⟩) (fun H locs I => ?_)
      refine lv_if_eq (tgt := 116) X.1 X.2.1 dX4_goOn_61 (by decide) (fun c_4 => ?_) (fun c_4 => ?_)
      · skip
        have hE := ite_f hE (b2i_n c_4)
        refine lv_iinc (v := _ + 1) (lv' := [(8, .int _), (0, .ref _), (1, .int _), (2, .int _), (3, .int _), (4, .int _), (5, .int _), (6, .int _), (7, .int _)]) X.1 X.2.1 dX4_goOn_116 hl (k := 8) rfl rfl (by decide) rfl (fun ls hl => ?_)
        refine lv_goto (tgt := 43) X.1 X.2.1 dX4_goOn_119 (by decide) ?_
        exact ih _ _ _ _ _ I (lv_sub hl [1, 2, 3, 4, 5, 6, 7, 8, 0] rfl) (hc) (Nat.lt_of_lt_of_le (dec_c (by first | with_reducible rfl | simp [f8_houses, f11_cell, w_f4_comesTo, w_f4_consider, w_f4_stay, sp_n, hGf]) (up_dec c_3)) (Nat.le_of_lt_succ hm)) (hE.trans (rfl))
      · skip
        have hE := ite_t hE (b2i_y c_4)
        refine lv_iload_n X.1 X.2.1 dX4_goOn_64 rfl (lv_at hl 3 rfl) ?_
        refine lv_aload_n X.1 X.2.1 dX4_goOn_65 rfl (lv_at hl 0 rfl) ?_
        refine g4_8 X I (k := 32) (by decide) rfl lf_X4_96 dX4_goOn_66 ?_
        refine lv_iadd X.1 X.2.1 dX4_goOn_69 ?_
        refine lv_istore (lv' := [(9, .int _), (0, .ref _), (1, .int _), (2, .int _), (3, .int _), (4, .int _), (5, .int _), (6, .int _), (7, .int _), (8, .int _)]) X.1 X.2.1 dX4_goOn_70 hl (by decide) rfl (fun ls hl => ?_)
        refine lv_aload_n X.1 X.2.1 dX4_goOn_72 rfl (lv_at hl 1 rfl) ?_
        refine lv_iload_n X.1 X.2.1 dX4_goOn_73 rfl (lv_at hl 2 rfl) ?_
        refine lv_iconst (v := 1) X.1 X.2.1 dX4_goOn_74 (by decide) ?_
        refine lv_iadd X.1 X.2.1 dX4_goOn_75 ?_
        refine lv_iload_n X.1 X.2.1 dX4_goOn_76 rfl (lv_at hl 3 rfl) ?_
        refine lv_bipush (v := 10) X.1 X.2.1 dX4_goOn_77 (by decide) ?_
        refine lv_imul X.1 X.2.1 dX4_goOn_79 ?_
        refine lv_iload X.1 X.2.1 dX4_goOn_80 (lv_at hl 9 rfl) ?_
        refine lv_iadd X.1 X.2.1 dX4_goOn_82 ?_
        refine lv_iload X.1 X.2.1 dX4_goOn_83 (lv_at hl 0 rfl) ?_
        refine r_ev I (r_runV X I pk_X4_consider (c4_consider l G _ _ _ _ _) lm_X4_127 (by decide) (cl_4 rfl) rfl rfl rfl hl.1 rfl (Nat.le_of_ble_eq_true rfl) dX4_goOn_85 (hr_le (by omega) (by decide)) ⟨Nat.le_refl 0, Nat.le_refl 0⟩) (fun H locs I => ?_)
        refine lv_aload_n X.1 X.2.1 dX4_goOn_88 rfl (lv_at hl 1 rfl) ?_
        refine lv_iload_n X.1 X.2.1 dX4_goOn_89 rfl (lv_at hl 2 rfl) ?_
        refine lv_iconst (v := 1) X.1 X.2.1 dX4_goOn_90 (by decide) ?_
        refine lv_iadd X.1 X.2.1 dX4_goOn_91 ?_
        refine lv_iload_n X.1 X.2.1 dX4_goOn_92 rfl (lv_at hl 3 rfl) ?_
        refine lv_bipush (v := 10) X.1 X.2.1 dX4_goOn_93 (by decide) ?_
        refine lv_imul X.1 X.2.1 dX4_goOn_95 ?_
        refine lv_iload X.1 X.2.1 dX4_goOn_96 (lv_at hl 9 rfl) ?_
        refine lv_iadd X.1 X.2.1 dX4_goOn_98 ?_
        refine lv_iload X.1 X.2.1 dX4_goOn_99 (lv_at hl 0 rfl) ?_
        refine r_ev I (r_runV X I pk_X4_goOn (hG _ _ _ _ _ (Nat.lt_of_lt_of_le (up_dec hc) (Nat.le_of_lt_succ hx))) lm_X4_114 (by decide) (cl_4 rfl) rfl rfl rfl hl.1 rfl (Nat.le_of_ble_eq_true rfl) dX4_goOn_101 (hr_le (by omega) (by decide)) ⟨Nat.le_refl 0, Nat.le_refl 0⟩) (fun H locs I => ?_)
        refine lv_aload_n X.1 X.2.1 dX4_goOn_104 rfl (lv_at hl 1 rfl) ?_
        refine lv_iload X.1 X.2.1 dX4_goOn_105 (lv_at hl 5 rfl) ?_
        refine lv_iload X.1 X.2.1 dX4_goOn_107 (lv_at hl 6 rfl) ?_
        refine lv_iload X.1 X.2.1 dX4_goOn_109 (lv_at hl 7 rfl) ?_
        refine lv_iload X.1 X.2.1 dX4_goOn_111 (lv_at hl 8 rfl) ?_
        refine r_ev I (r_runV X I pk_X4_stay (c4_stay l G _ _ _ _ _ _) lm_X4_38 (by decide) (cl_4 rfl) rfl rfl rfl hl.1 rfl (Nat.le_of_ble_eq_true rfl) dX4_goOn_113 (hr_le (by omega) (by decide)) ⟨Nat.le_refl 0, Nat.le_refl 0⟩) (fun H locs I => ?_)
        refine lv_iinc (v := _ + 1) (lv' := [(8, .int _), (9, .int _), (0, .ref _), (1, .int _), (2, .int _), (3, .int _), (4, .int _), (5, .int _), (6, .int _), (7, .int _)]) X.1 X.2.1 dX4_goOn_116 hl (k := 9) rfl rfl (by decide) rfl (fun ls hl => ?_)
        refine lv_goto (tgt := 43) X.1 X.2.1 dX4_goOn_119 (by decide) ?_
        exact ih _ _ _ _ _ I (lv_sub hl [2, 3, 4, 5, 6, 7, 8, 9, 0] rfl) (hc) (Nat.lt_of_lt_of_le (dec_c (by first | with_reducible rfl | simp [f8_houses, f11_cell, w_f4_comesTo, w_f4_consider, w_f4_stay, sp_n, hGf]) (up_dec c_3)) (Nat.le_of_lt_succ hm)) (hE.trans (rfl))
set_option maxHeartbeats 4000000 in
set_option maxRecDepth 100000 in
theorem c4_goOn (l : Launch) (G : GT) {Gf : SI → Int32 → Int32 → Int32 → SI} {D : Nat} (hG : ∀ (σ : SI) (τ : SL) (x1 : Int32) (x2 : Int32) (x3 : Int32), (Int32.toInt 7 - Int32.toInt x1).toNat < D → Mc l yX4_goOn cX4_goOn 10 none (20 + D) G [.ref (G.2.1 32), .int x1, .int x2, .int x3] σ τ (Qv G (Ev (Gf σ x1 x2 x3) τ))) (hGf : ∀ (σ : SI) (x1 : Int32) (x2 : Int32) (x3 : Int32) (b : Nat), b ≠ 13 → b ≠ 15 → b ≠ 32 → (Gf σ x1 x2 x3) b = σ b) (σ : SI) (τ : SL) (x1 : Int32) (x2 : Int32) (x3 : Int32) (hx : (Int32.toInt 7 - Int32.toInt x1).toNat < D + 1) : Mc l yX4_goOn cX4_goOn 10 none (20 + D + 1) G [.ref (G.2.1 32), .int x1, .int x2, .int x3] σ τ (Qv G (Ev (f4_goOn Gf σ x1 x2 x3) τ)) := by
  refine m_start (by decide +kernel) (Nat.le_of_ble_eq_true rfl) rfl (fun p e s m args below meth c ls X I hl => ?_)
  have hl : lv_has ls 10 [(0, .ref (G.2.1 32)), (1, .int x1), (2, .int x2), (3, .int x3)] := hl
  obtain ⟨E, hE⟩ : ∃ E, E = (f4_goOn Gf σ x1 x2 x3) := ⟨_, rfl⟩
  rw [← hE]
  refine lv_iload_n X.1 X.2.1 dX4_goOn_0 rfl (lv_at hl 1 rfl) ?_
  refine lv_bipush (v := 7) X.1 X.2.1 dX4_goOn_1 (by decide) ?_
  refine lv_icmp_ge (tgt := 15) X.1 X.2.1 dX4_goOn_3 (by decide) (fun c_1 => ?_) (fun c_1 => ?_)
  · skip
    have hE := ite_t hE c_1
    have h9 := hE
    exact r_vret X I (e_v h9.symm rfl) dX4_goOn_15
  · skip
    have hE := ite_f hE c_1
    refine lv_aload_n X.1 X.2.1 dX4_goOn_6 rfl (lv_at hl 0 rfl) ?_
    refine lv_iload_n X.1 X.2.1 dX4_goOn_7 rfl (lv_at hl 1 rfl) ?_
    refine lv_iload_n X.1 X.2.1 dX4_goOn_8 rfl (lv_at hl 3 rfl) ?_
    refine r_ei I (r_runV X I pk_X4_isHopeless (c4_isHopeless l G _ _ _ _) lm_X4_118 (by decide) (cl_4 rfl) rfl rfl rfl hl.1 rfl (Nat.le_of_ble_eq_true rfl) dX4_goOn_9 (hr_le (by omega) (by decide)) ⟨Nat.le_refl 0, Nat.le_refl 0⟩) (fun H locs I => ?_)
    refine lv_if_eq (tgt := 16) X.1 X.2.1 dX4_goOn_12 (by decide) (fun c_2 => ?_) (fun c_2 => ?_)
    · skip
      have hE := ite_f hE (b2i_n c_2)
      refine lv_aload_n X.1 X.2.1 dX4_goOn_16 rfl (lv_at hl 0 rfl) ?_
      refine g4_3 X I (k := 32) (by decide) rfl lf_X4_42 dX4_goOn_17 ?_
      refine lv_istore (lv' := [(4, .int _), (0, .ref _), (1, .int _), (2, .int _), (3, .int _)]) X.1 X.2.1 dX4_goOn_20 hl (by decide) rfl (fun ls hl => ?_)
      refine lv_aload_n X.1 X.2.1 dX4_goOn_22 rfl (lv_at hl 1 rfl) ?_
      refine g4_4 X I (k := 32) (by decide) rfl lf_X4_43 dX4_goOn_23 ?_
      refine lv_istore (lv' := [(5, .int _), (4, .int _), (0, .ref _), (1, .int _), (2, .int _), (3, .int _)]) X.1 X.2.1 dX4_goOn_26 hl (by decide) rfl (fun ls hl => ?_)
      refine lv_aload_n X.1 X.2.1 dX4_goOn_28 rfl (lv_at hl 2 rfl) ?_
      refine g4_5 X I (k := 32) (by decide) rfl lf_X4_44 dX4_goOn_29 ?_
      refine lv_istore (lv' := [(6, .int _), (5, .int _), (4, .int _), (0, .ref _), (1, .int _), (2, .int _), (3, .int _)]) X.1 X.2.1 dX4_goOn_32 hl (by decide) rfl (fun ls hl => ?_)
      refine lv_aload_n X.1 X.2.1 dX4_goOn_34 rfl (lv_at hl 3 rfl) ?_
      refine g4_6 X I (k := 32) (by decide) rfl lf_X4_45 dX4_goOn_35 ?_
      refine lv_istore (lv' := [(7, .int _), (6, .int _), (5, .int _), (4, .int _), (0, .ref _), (1, .int _), (2, .int _), (3, .int _)]) X.1 X.2.1 dX4_goOn_38 hl (by decide) rfl (fun ls hl => ?_)
      refine lv_iconst (v := 0) X.1 X.2.1 dX4_goOn_40 (by decide) ?_
      refine lv_istore (lv' := [(8, .int _), (7, .int _), (6, .int _), (5, .int _), (4, .int _), (0, .ref _), (1, .int _), (2, .int _), (3, .int _)]) X.1 X.2.1 dX4_goOn_41 hl (by decide) rfl (fun ls hl => ?_)
      exact c4_goOn_c43 X hG hGf _ _ _ _ _ _ _ _ hx _ _ _ _ _ _ I (lv_sub hl [5, 6, 7, 8, 4, 3, 2, 1, 0] rfl) (c_1) (fu1_lt _) (hE.trans (rfl))
    · skip
      have hE := ite_t hE (b2i_y c_2)
      have h9 := hE
      exact r_vret X I (e_v h9.symm rfl) dX4_goOn_15
noncomputable def fGoD : Nat → SI → Int32 → Int32 → Int32 → SI
  | 0 => fun σ _ _ _ => σ
  | D + 1 => fun σ x1 x2 x3 => f4_goOn (fGoD D) σ x1 x2 x3
theorem w_fGoD : ∀ (D : Nat) (σ : SI) (x1 x2 x3 : Int32) (b : Nat), b ≠ 13 → b ≠ 15 → b ≠ 32 → fGoD D σ x1 x2 x3 b = σ b
  | 0, _, _, _, _, _, _, _, _ => rfl
  | D + 1, σ, x1, x2, x3, b, h0, h1, h2 => w_f4_goOn (fun σ x1 x2 x3 b h0 h1 h2 => w_fGoD D σ x1 x2 x3 b h0 h1 h2) σ x1 x2 x3 b h0 h1 h2
theorem cGoD (l : Launch) (G : GT) : ∀ (D : Nat) (σ : SI) (τ : SL) (x1 x2 x3 : Int32), (Int32.toInt 7 - Int32.toInt x1).toNat < D → Mc l yX4_goOn cX4_goOn 10 none (20 + D) G [.ref (G.2.1 32), .int x1, .int x2, .int x3] σ τ (Qv G (Ev (fGoD D σ x1 x2 x3) τ))
  | 0, _, _, _, _, _, h => absurd h (Nat.not_lt_zero _)
  | D + 1, σ, τ, x1, x2, x3, h => c4_goOn l G (fun σ τ x1 x2 x3 h => cGoD l G D σ τ x1 x2 x3 h) (fun σ x1 x2 x3 b h0 h1 h2 => w_fGoD D σ x1 x2 x3 b h0 h1 h2) σ τ x1 x2 x3 h
noncomputable def f4_go (σ : SI) (x1 x2 x3 : Int32) : SI := fGoD (blk 8) σ x1 x2 x3
theorem f4_go_eq (σ : SI) (x1 x2 x3 : Int32) : f4_go σ x1 x2 x3 = fGoD 8 σ x1 x2 x3 := by unfold f4_go; rw [blk_eq]
theorem seven_lt {x : Int32} (h : ¬ x < 0) : (Int32.toInt 7 - Int32.toInt x).toNat < 8 := by
  rw [lt_ti] at h
  have h0 : (0 : Int32).toInt = 0 := rfl
  have h6 : (7 : Int32).toInt = 7 := rfl
  omega
theorem c4_go (l : Launch) (G : GT) (σ : SI) (τ : SL) (x1 x2 x3 : Int32) (hx0 : ¬ x1 < 0) : Mc l yX4_goOn cX4_goOn 10 none 28 G [.ref (G.2.1 32), .int x1, .int x2, .int x3] σ τ (Qv G (Ev (f4_go σ x1 x2 x3) τ)) := by rw [f4_go_eq]; exact cGoD l G 8 σ τ x1 x2 x3 (seven_lt hx0)
theorem w_f4_go (σ : SI) (x1 x2 x3 : Int32) (b : Nat) (h0 : b ≠ 13) (h1 : b ≠ 15) (h2 : b ≠ 32) : f4_go σ x1 x2 x3 b = σ b := by rw [f4_go_eq]; exact w_fGoD 8 σ x1 x2 x3 b h0 h1 h2
noncomputable def f4_findRoute (σ : SI) : SI := let s0 := (f4_setOut σ); let s1 := sp s0 32 9 (0 : Int32); let s2 := sp s1 32 10 (0 : Int32); let s3 := sp s2 32 11 (0 : Int32); let s4 := sp s3 32 12 (s0 24 2); let s5 := (f4_go s4 (0 : Int32) (0 : Int32) (0 : Int32)); s5
theorem w_f4_findRoute (σ : SI) (a : Nat) (h0 : a ≠ 13) (h1 : a ≠ 15) (h2 : a ≠ 32) : (f4_findRoute σ) a = σ a := by
  unfold f4_findRoute
  exact ((w_f4_go _ _ _ _ a h0 h1 h2).trans ((sp_n h2).trans ((sp_n h2).trans ((sp_n h2).trans ((sp_n h2).trans (w_f4_setOut _ a h2))))))
set_option maxHeartbeats 4000000 in
set_option maxRecDepth 100000 in
theorem c4_findRoute (l : Launch) (G : GT) (σ : SI) (τ : SL) : Mc l yX4_findRoute cX4_findRoute 1 none 29 G [.ref (G.2.1 32)] σ τ (Qv G (Ev (f4_findRoute σ) τ)) := by
  refine m_start (by decide +kernel) (Nat.le_of_ble_eq_true rfl) rfl (fun p e s m args below meth c ls X I hl => ?_)
  have hl : lv_has ls 1 [(0, .ref (G.2.1 32))] := hl
  obtain ⟨E, hE⟩ : ∃ E, E = (f4_findRoute σ) := ⟨_, rfl⟩
  rw [← hE]
  refine lv_aload_n X.1 X.2.1 dX4_findRoute_0 rfl (lv_at hl 0 rfl) ?_
  refine r_ev I (r_runV X I pk_X4_setOut (c4_setOut l G _ _) lm_X4_99 (by decide) (cl_4 rfl) rfl rfl rfl hl.1 rfl (Nat.le_of_ble_eq_true rfl) dX4_findRoute_1 ⟨Nat.le_of_ble_eq_true rfl, Nat.le_of_ble_eq_true rfl⟩ ⟨Nat.le_refl 0, Nat.le_refl 0⟩) (fun H locs I => ?_)
  refine lv_aload_n X.1 X.2.1 dX4_findRoute_4 rfl (lv_at hl 0 rfl) ?_
  refine lv_iconst (v := 0) X.1 X.2.1 dX4_findRoute_5 (by decide) ?_
  refine p4_9 X I (k := 32) (by decide) rfl lf_X4_102 dX4_findRoute_6 (fun H locs I => ?_)
  refine lv_aload_n X.1 X.2.1 dX4_findRoute_9 rfl (lv_at hl 0 rfl) ?_
  refine lv_iconst (v := 0) X.1 X.2.1 dX4_findRoute_10 (by decide) ?_
  refine p4_10 X I (k := 32) (by decide) rfl lf_X4_105 dX4_findRoute_11 (fun H locs I => ?_)
  refine lv_aload_n X.1 X.2.1 dX4_findRoute_14 rfl (lv_at hl 0 rfl) ?_
  refine lv_iconst (v := 0) X.1 X.2.1 dX4_findRoute_15 (by decide) ?_
  refine p4_11 X I (k := 32) (by decide) rfl lf_X4_108 dX4_findRoute_16 (fun H locs I => ?_)
  refine lv_aload_n X.1 X.2.1 dX4_findRoute_19 rfl (lv_at hl 0 rfl) ?_
  refine lv_aload_n X.1 X.2.1 dX4_findRoute_20 rfl (lv_at hl 0 rfl) ?_
  refine g4_2 X I (k := 32) (by decide) rfl lf_X4_19 dX4_findRoute_21 ?_
  refine g0_2 X I (k := 24) (by decide) rfl lf_X4_29 dX4_findRoute_24 ?_
  refine p4_12 X I (k := 32) (by decide) rfl lf_X4_111 dX4_findRoute_27 (fun H locs I => ?_)
  refine lv_aload_n X.1 X.2.1 dX4_findRoute_30 rfl (lv_at hl 0 rfl) ?_
  refine lv_iconst (v := 0) X.1 X.2.1 dX4_findRoute_31 (by decide) ?_
  refine lv_iconst (v := 0) X.1 X.2.1 dX4_findRoute_32 (by decide) ?_
  refine lv_iconst (v := 0) X.1 X.2.1 dX4_findRoute_33 (by decide) ?_
  refine r_ev I (r_runV X I pk_X4_goOn (c4_go l G _ _ _ _ _ (by decide)) lm_X4_114 (by decide) (cl_4 rfl) rfl rfl rfl hl.1 rfl (Nat.le_of_ble_eq_true rfl) dX4_findRoute_34 ⟨Nat.le_of_ble_eq_true rfl, Nat.le_of_ble_eq_true rfl⟩ ⟨Nat.le_refl 0, Nat.le_refl 0⟩) (fun H locs I => ?_)
  have h9 := hE
  exact r_vret X I (e_v h9.symm rfl) dX4_findRoute_37
noncomputable def f5_forget (σ : SI) : SI := let s0 := sp σ 26 4 (0 : Int32); let s1 := sp s0 26 5 (0 : Int32); let s2 := sp s1 26 6 (0 : Int32); s2
theorem w_f5_forget (σ : SI) (a : Nat) (h0 : a ≠ 26) : (f5_forget σ) a = σ a := by
  unfold f5_forget
  exact ((sp_n h0).trans ((sp_n h0).trans (sp_n h0)))
set_option maxHeartbeats 4000000 in
set_option maxRecDepth 100000 in
theorem c5_forget (l : Launch) (G : GT) (σ : SI) (τ : SL) : Mc l yX5_forget cX5_forget 1 none 0 G [.ref (G.2.1 26)] σ τ (Qv G (Ev (f5_forget σ) τ)) := by
  refine m_start (by decide +kernel) (Nat.le_of_ble_eq_true rfl) rfl (fun p e s m args below meth c ls X I hl => ?_)
  have hl : lv_has ls 1 [(0, .ref (G.2.1 26))] := hl
  obtain ⟨E, hE⟩ : ∃ E, E = (f5_forget σ) := ⟨_, rfl⟩
  rw [← hE]
  refine lv_aload_n X.1 X.2.1 dX5_forget_0 rfl (lv_at hl 0 rfl) ?_
  refine lv_iconst (v := 0) X.1 X.2.1 dX5_forget_1 (by decide) ?_
  refine p5_4 X I (k := 26) (by decide) rfl lf_X5_29 dX5_forget_2 (fun H locs I => ?_)
  refine lv_aload_n X.1 X.2.1 dX5_forget_5 rfl (lv_at hl 0 rfl) ?_
  refine lv_iconst (v := 0) X.1 X.2.1 dX5_forget_6 (by decide) ?_
  refine p5_5 X I (k := 26) (by decide) rfl lf_X5_33 dX5_forget_7 (fun H locs I => ?_)
  refine lv_aload_n X.1 X.2.1 dX5_forget_10 rfl (lv_at hl 0 rfl) ?_
  refine lv_iconst (v := 0) X.1 X.2.1 dX5_forget_11 (by decide) ?_
  refine p5_6 X I (k := 26) (by decide) rfl lf_X5_36 rfl rfl dX5_forget_12 (fun H locs I => ?_)
  have h9 := hE
  exact r_vret X I (e_v h9.symm rfl) dX5_forget_15
noncomputable def f5_kept (σ : SI) : Int32 := (σ 26 4)
set_option maxHeartbeats 4000000 in
set_option maxRecDepth 100000 in
theorem c5_kept (l : Launch) (G : GT) (σ : SI) (τ : SL) : Mc l yX5_kept cX5_kept 1 (some .int) 0 G [.ref (G.2.1 26)] σ τ (Qi G (Ei (f5_kept σ) σ τ)) := by
  refine m_start (by decide +kernel) (Nat.le_of_ble_eq_true rfl) rfl (fun p e s m args below meth c ls X I hl => ?_)
  have hl : lv_has ls 1 [(0, .ref (G.2.1 26))] := hl
  obtain ⟨E, hE⟩ : ∃ E, E = (f5_kept σ) := ⟨_, rfl⟩
  rw [← hE]
  refine lv_aload_n X.1 X.2.1 dX5_kept_0 rfl (lv_at hl 0 rfl) ?_
  refine g5_4 X I (k := 26) (by decide) rfl lf_X5_29 dX5_kept_1 ?_
  have h9 := hE
  exact r_iret X I (e_i h9.symm rfl rfl) dX5_kept_4
noncomputable def f5_dayAt (x1 : Int32) : Option Nat := if x1 < (0 : Int32) then none else (if (40 : Int32) ≤ x1 then none else (some (43 + 2 * (Int32.toNatClampNeg x1))))
set_option maxHeartbeats 4000000 in
set_option maxRecDepth 100000 in
theorem c5_dayAt (l : Launch) (G : GT) (σ : SI) (τ : SL) (x1 : Int32) : Mc l yX5_dayAt cX5_dayAt 2 (some (.object "SaintCarried$Day")) 0 G [.ref (G.2.1 26), .int x1] σ τ (Qq G (Eq1 ((f5_dayAt x1).map G.2.1) σ τ)) := by
  refine m_start (by decide +kernel) (Nat.le_of_ble_eq_true rfl) rfl (fun p e s m args below meth c ls X I hl => ?_)
  have hl : lv_has ls 2 [(0, .ref (G.2.1 26)), (1, .int x1)] := hl
  obtain ⟨E, hE⟩ : ∃ E, E = (f5_dayAt x1) := ⟨_, rfl⟩
  rw [← hE]
  refine lv_iload_n X.1 X.2.1 dX5_dayAt_0 rfl (lv_at hl 1 rfl) ?_
  refine lv_if_lt (tgt := 22) X.1 X.2.1 dX5_dayAt_1 (by decide) (fun c_1 => ?_) (fun c_1 => ?_)
  · skip
    have hE := ite_t hE c_1
    refine lv_null X.1 X.2.1 dX5_dayAt_22 ?_
    have h9 := hE
    exact r_qret (v := none) X I (Or.inl ⟨_, rfl⟩) (e_q (congrArg (Option.map G.2.1) h9).symm rfl rfl) dX5_dayAt_23
  · skip
    have hE := ite_f hE c_1
    refine lv_iload_n X.1 X.2.1 dX5_dayAt_4 rfl (lv_at hl 1 rfl) ?_
    refine lv_aload_n X.1 X.2.1 dX5_dayAt_5 rfl (lv_at hl 0 rfl) ?_
    refine g5_0 X I (k := 26) (by decide) rfl lf_X5_11 dX5_dayAt_6 ?_
    refine r_alen20 X I (k := 27) (by decide) rfl dX5_dayAt_9 ?_
    refine lv_icmp_ge (tgt := 22) X.1 X.2.1 dX5_dayAt_10 (by decide) (fun c_2 => ?_) (fun c_2 => ?_)
    · skip
      have hE := ite_t hE c_2
      refine lv_null X.1 X.2.1 dX5_dayAt_22 ?_
      have h9 := hE
      exact r_qret (v := none) X I (Or.inl ⟨_, rfl⟩) (e_q (congrArg (Option.map G.2.1) h9).symm rfl rfl) dX5_dayAt_23
    · skip
      have hE := ite_f hE c_2
      refine lv_aload_n X.1 X.2.1 dX5_dayAt_13 rfl (lv_at hl 0 rfl) ?_
      refine g5_0 X I (k := 26) (by decide) rfl lf_X5_11 dX5_dayAt_14 ?_
      refine lv_iload_n X.1 X.2.1 dX5_dayAt_17 rfl (lv_at hl 1 rfl) ?_
      refine r_dayld X I (k := 27) (by decide) rfl (vp_g (n := 40) (by decide) c_1 c_2) dX5_dayAt_18 ?_
      refine lv_goto (tgt := 23) X.1 X.2.1 dX5_dayAt_19 (by decide) ?_
      have h9 := hE
      exact r_qret (v := some _) X I (Or.inl ⟨_, rfl⟩) (e_q (congrArg (Option.map G.2.1) h9).symm rfl rfl) dX5_dayAt_23
theorem day_fact {x1 : Int32} {k : Nat} (h : f5_dayAt x1 = some k) : isDay k := by
  unfold f5_dayAt at h
  split at h
  · cases h
  · split at h
    · cases h
    · next h1 h2 =>
      obtain ⟨j, hj, rfl⟩ := nI_of h1
      have h3 : ¬ nI 40 ≤ nI j := h2
      rw [nI_leI (by decide) hj] at h3
      rw [nI_clamp hj] at h
      have h4 : 43 + 2 * j = k := Option.some.inj h
      subst h4
      exact day_all j (by omega)
theorem day_rng {x1 : Int32} {k : Nat} (h : f5_dayAt x1 = some k) : 43 ≤ k ∧ k + 1 < 123 := by
  unfold f5_dayAt at h
  split at h
  · cases h
  · split at h
    · cases h
    · next h1 h2 =>
      obtain ⟨j, hj, rfl⟩ := nI_of h1
      have h3 : ¬ nI 40 ≤ nI j := h2
      rw [nI_leI (by decide) hj] at h3
      rw [nI_clamp hj] at h
      have h4 : 43 + 2 * j = k := Option.some.inj h
      omega
