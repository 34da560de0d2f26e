noncomputable def f11_who_c28 (x1 : Int32) (x2 : Int32) : Nat → Int32 → Int32 → SI → (Int32 × SI)
  | 0, _, _, σ => (0, σ)
  | fu + 1, v3, v4, σ => if (9 : Int32) < v4 then (if x2 = (-1 : Int32) then (v3, σ) else ((-1 : Int32), σ)) else (if v4 < (f8_houses 10 σ) then (let r0 := (f11_isSeenSo σ v4 x1); if r0.1 = true then (if v3 = x2 then (v4, r0.2) else (f11_who_c28 x1 x2 fu (v3 + 1) (v4 + 1) r0.2)) else (f11_who_c28 x1 x2 fu v3 (v4 + 1) r0.2)) else (if v4 = (9 : Int32) then (let r1 := (f11_isSeenSo σ v4 x1); if r1.1 = true then (if v3 = x2 then (v4, r1.2) else (f11_who_c28 x1 x2 fu (v3 + 1) (v4 + 1) r1.2)) else (f11_who_c28 x1 x2 fu v3 (v4 + 1) r1.2)) else (f11_who_c28 x1 x2 fu v3 (v4 + 1) σ)))
noncomputable def f11_who (σ : SI) (x1 : Int32) (x2 : Int32) : Int32 × SI := if (f8_isTold 10 σ) = true then (if x1 < (1 : Int32) then ((-1 : Int32), σ) else (if x1 ≤ (9 : Int32) then (f11_who_c28 x1 x2 (fu1 ((Int32.toInt (9 : Int32) + 1 - Int32.toInt (0 : Int32)).toNat)) (0 : Int32) (0 : Int32) σ) else ((-1 : Int32), σ))) else ((-1 : Int32), σ)
theorem w_f11_who_c28 (x1 : Int32) (x2 : Int32) (a : Nat) (h0 : a ≠ 36) (h1 : a ≠ 37) (h2 : a ≠ 38) : ∀ (fu : Nat) (v3 : Int32) (v4 : Int32) (σ : SI), (f11_who_c28 x1 x2 fu v3 v4 σ).2 a = σ a := by
  intro fu
  induction fu with
  | zero => intro v3 v4 σ; exact rfl
  | succ fu ih =>
    intro v3 v4 σ
    refine fp_to2 ?_
    unfold f11_who_c28
    exact (fr_ite2 (fr_ite2 (fr_mk21 rfl) (fr_mk21 rfl)) (fr_ite2 (fr_ite2 (fr_ite2 (fr_mk21 (w_f11_isSeenSo _ _ _ a h0 h1 h2)) (fp_of2 (((ih _ _ _).trans (w_f11_isSeenSo _ _ _ a h0 h1 h2))))) (fp_of2 (((ih _ _ _).trans (w_f11_isSeenSo _ _ _ a h0 h1 h2))))) (fr_ite2 (fr_ite2 (fr_ite2 (fr_mk21 (w_f11_isSeenSo _ _ _ a h0 h1 h2)) (fp_of2 (((ih _ _ _).trans (w_f11_isSeenSo _ _ _ a h0 h1 h2))))) (fp_of2 (((ih _ _ _).trans (w_f11_isSeenSo _ _ _ a h0 h1 h2))))) (fp_of2 ((ih _ _ _))))))
theorem w_f11_who (σ : SI) (x1 : Int32) (x2 : Int32) (a : Nat) (h0 : a ≠ 36) (h1 : a ≠ 37) (h2 : a ≠ 38) : (f11_who σ x1 x2).2 a = σ a := by
  refine fp_to2 ?_
  unfold f11_who
  exact (fr_ite2 (fr_ite2 (fr_mk21 rfl) (fr_ite2 (fp_of2 ((w_f11_who_c28 _ _ a h0 h1 h2 _ _ _ _))) (fr_mk21 rfl))) (fr_mk21 rfl))
set_option maxHeartbeats 4000000 in
set_option maxRecDepth 100000 in
theorem c11_who_c28 {l : Launch} {p : Program} {e : Env} {s : State} {m : MethodId} {args : Array Value} {below : List Frame} {meth : Method} {c : Code} {G : GT} (X : CX p s m args meth c cX11_who RX11 5 (some .int) G) {E : Int32 × SI} (τ : SL) (x1 : Int32) (x2 : Int32) : ∀ (fu : Nat) (v3 : Int32) (v4 : Int32) (σ : SI) (H : Heap) (locs : List Loc) (ls : Array Slot), IX G s H locs σ τ → lv_has ls 5 [(0, .ref (G.2.1 0)), (1, .int x1), (2, .int x2), (3, .int v3), (4, .int v4)] → (Int32.toInt (9 : Int32) + 1 - Int32.toInt v4).toNat < fu → E = (f11_who_c28 x1 x2 fu v3 v4 σ) → W p l e (rmN 4) s m args below meth c H locs 0 0 (MQ below ((Qi G (Ei E.1 E.2 τ)) s.heap.size) args s 0 0 (AW G s.heap.size)) (F0 m 28 ls []) := by
  intro fu
  induction fu with
  | zero =>
    intro v3 v4 σ H locs ls I hl  hm hE
    exact absurd hm (Nat.not_lt_zero _)
  | succ fu ih =>
    intro v3 v4 σ H locs ls I hl  hm hE
    refine lv_iload X.1 X.2.1 dX11_who_28 (lv_at hl 4 rfl) ?_
    refine lv_bipush (v := 9) X.1 X.2.1 dX11_who_30 (by decide) ?_
    refine lv_icmp_gt (tgt := 81) X.1 X.2.1 dX11_who_32 (by decide) (fun c_4 => ?_) (fun c_4 => ?_)
    · skip
      have hE := ite_t hE c_4
      refine lv_iload_n X.1 X.2.1 dX11_who_81 rfl (lv_at hl 2 rfl) ?_
      refine lv_iconst (v := (-1)) X.1 X.2.1 dX11_who_82 (by decide) ?_
      refine lv_icmp_ne (tgt := 90) X.1 X.2.1 dX11_who_83 (by decide) (fun c_5 => ?_) (fun c_5 => ?_)
      · skip
        have hE := ite_f hE c_5
        refine lv_iconst (v := (-1)) X.1 X.2.1 dX11_who_90 (by decide) ?_
        have h9 := hE
        exact r_iret X I (e_i (pr_fst h9) (pr_snd h9) rfl) dX11_who_91
      · skip
        have hE := ite_t hE c_5
        refine lv_iload_n X.1 X.2.1 dX11_who_86 rfl (lv_at hl 3 rfl) ?_
        refine lv_goto (tgt := 91) X.1 X.2.1 dX11_who_87 (by decide) ?_
        have h9 := hE
        exact r_iret X I (e_i (pr_fst h9) (pr_snd h9) rfl) dX11_who_91
    · skip
      have hE := ite_f hE c_4
      refine lv_iload X.1 X.2.1 dX11_who_35 (lv_at hl 4 rfl) ?_
      refine lv_aload_n X.1 X.2.1 dX11_who_37 rfl (lv_at hl 0 rfl) ?_
      refine g11_3 X I (k := 0) (by decide) rfl lf_X11_35 dX11_who_38 ?_
      refine r_ei I (r_runV X I pk_X8_houses (c8_houses l G (k := 10) ⟨by decide, rfl, rfl, rfl⟩ _ _) lm_X11_151 (by decide) (cl_8 rfl) rfl rfl rfl hl.1 rfl (Nat.le_of_ble_eq_true rfl) dX11_who_41 ⟨Nat.le_of_ble_eq_true rfl, Nat.le_of_ble_eq_true rfl⟩ ⟨Nat.le_refl 0, Nat.le_refl 0⟩) (fun H locs I => ?_)
      refine lv_icmp_lt (tgt := 54) X.1 X.2.1 dX11_who_44 (by decide) (fun c_6 => ?_) (fun c_6 => ?_)
      · skip
        have hE := ite_t hE c_6
        refine lv_aload_n X.1 X.2.1 dX11_who_54 rfl (lv_at hl 0 rfl) ?_
        refine lv_iload X.1 X.2.1 dX11_who_55 (lv_at hl 4 rfl) ?_
        refine lv_iload_n X.1 X.2.1 dX11_who_57 rfl (lv_at hl 1 rfl) ?_
        refine r_ei I (r_runV X I pk_X11_isSeenSo (c11_isSeenSo l G _ _ _ _) lm_X11_414 (by decide) (cl_11 rfl) rfl rfl rfl hl.1 rfl (Nat.le_of_ble_eq_true rfl) dX11_who_58 ⟨Nat.le_of_ble_eq_true rfl, Nat.le_of_ble_eq_true rfl⟩ ⟨Nat.le_refl 0, Nat.le_refl 0⟩) (fun H locs I => ?_)
        refine lv_if_eq (tgt := 75) X.1 X.2.1 dX11_who_61 (by decide) (fun c_7 => ?_) (fun c_7 => ?_)
        · skip
          have hE := ite_f hE (b2i_n c_7)
          refine lv_iinc (v := _ + 1) (lv' := [(4, .int _), (0, .ref _), (1, .int _), (2, .int _), (3, .int _)]) X.1 X.2.1 dX11_who_75 hl (k := 4) rfl rfl (by decide) rfl (fun ls hl => ?_)
          refine lv_goto (tgt := 28) X.1 X.2.1 dX11_who_78 (by decide) ?_
          exact ih _ _ _ _ _ _ I (lv_sub hl [1, 2, 3, 4, 0] rfl) (Nat.lt_of_lt_of_le (up_decE (by decide) c_4) (Nat.le_of_lt_succ hm)) (hE.trans (rfl))
        · skip
          have hE := ite_t hE (b2i_y c_7)
          refine lv_iload_n X.1 X.2.1 dX11_who_64 rfl (lv_at hl 3 rfl) ?_
          refine lv_iload_n X.1 X.2.1 dX11_who_65 rfl (lv_at hl 2 rfl) ?_
          refine lv_icmp_ne (tgt := 72) X.1 X.2.1 dX11_who_66 (by decide) (fun c_8 => ?_) (fun c_8 => ?_)
          · skip
            have hE := ite_f hE c_8
            refine lv_iinc (v := _ + 1) (lv' := [(3, .int _), (0, .ref _), (1, .int _), (2, .int _), (4, .int _)]) X.1 X.2.1 dX11_who_72 hl (k := 3) rfl rfl (by decide) rfl (fun ls hl => ?_)
            refine lv_iinc (v := _ + 1) (lv' := [(4, .int _), (3, .int _), (0, .ref _), (1, .int _), (2, .int _)]) X.1 X.2.1 dX11_who_75 hl (k := 4) rfl rfl (by decide) rfl (fun ls hl => ?_)
            refine lv_goto (tgt := 28) X.1 X.2.1 dX11_who_78 (by decide) ?_
            exact ih _ _ _ _ _ _ I (lv_sub hl [2, 3, 4, 1, 0] rfl) (Nat.lt_of_lt_of_le (up_decE (by decide) c_4) (Nat.le_of_lt_succ hm)) (hE.trans (rfl))
          · skip
            have hE := ite_t hE c_8
            refine lv_iload X.1 X.2.1 dX11_who_69 (lv_at hl 4 rfl) ?_
            have h9 := hE
            exact r_iret X I (e_i (pr_fst h9) (pr_snd h9) rfl) dX11_who_71
      · skip
        have hE := ite_f hE c_6
        refine lv_iload X.1 X.2.1 dX11_who_47 (lv_at hl 4 rfl) ?_
        refine lv_bipush (v := 9) X.1 X.2.1 dX11_who_49 (by decide) ?_
        refine lv_icmp_ne (tgt := 75) X.1 X.2.1 dX11_who_51 (by decide) (fun c_9 => ?_) (fun c_9 => ?_)
        · skip
          have hE := ite_f hE c_9
          refine lv_iinc (v := _ + 1) (lv' := [(4, .int _), (0, .ref _), (1, .int _), (2, .int _), (3, .int _)]) X.1 X.2.1 dX11_who_75 hl (k := 4) rfl rfl (by decide) rfl (fun ls hl => ?_)
          refine lv_goto (tgt := 28) X.1 X.2.1 dX11_who_78 (by decide) ?_
          exact ih _ _ _ _ _ _ I (lv_sub hl [1, 2, 3, 4, 0] rfl) (Nat.lt_of_lt_of_le (up_decE (by decide) c_4) (Nat.le_of_lt_succ hm)) (hE.trans (rfl))
        · skip
          have hE := ite_t hE c_9
          refine lv_aload_n X.1 X.2.1 dX11_who_54 rfl (lv_at hl 0 rfl) ?_
          refine lv_iload X.1 X.2.1 dX11_who_55 (lv_at hl 4 rfl) ?_
          refine lv_iload_n X.1 X.2.1 dX11_who_57 rfl (lv_at hl 1 rfl) ?_
          refine r_ei I (r_runV X I pk_X11_isSeenSo (c11_isSeenSo l G _ _ _ _) lm_X11_414 (by decide) (cl_11 rfl) rfl rfl rfl hl.1 rfl (Nat.le_of_ble_eq_true rfl) dX11_who_58 ⟨Nat.le_of_ble_eq_true rfl, Nat.le_of_ble_eq_true rfl⟩ ⟨Nat.le_refl 0, Nat.le_refl 0⟩) (fun H locs I => ?_)
          refine lv_if_eq (tgt := 75) X.1 X.2.1 dX11_who_61 (by decide) (fun c_10 => ?_) (fun c_10 => ?_)
          · skip
            have hE := ite_f hE (b2i_n c_10)
            refine lv_iinc (v := _ + 1) (lv' := [(4, .int _), (0, .ref _), (1, .int _), (2, .int _), (3, .int _)]) X.1 X.2.1 dX11_who_75 hl (k := 4) rfl rfl (by decide) rfl (fun ls hl => ?_)
            refine lv_goto (tgt := 28) X.1 X.2.1 dX11_who_78 (by decide) ?_
            exact ih _ _ _ _ _ _ I (lv_sub hl [1, 2, 3, 4, 0] rfl) (Nat.lt_of_lt_of_le (up_decE (by decide) c_4) (Nat.le_of_lt_succ hm)) (hE.trans (rfl))
          · skip
            have hE := ite_t hE (b2i_y c_10)
            refine lv_iload_n X.1 X.2.1 dX11_who_64 rfl (lv_at hl 3 rfl) ?_
            refine lv_iload_n X.1 X.2.1 dX11_who_65 rfl (lv_at hl 2 rfl) ?_
            refine lv_icmp_ne (tgt := 72) X.1 X.2.1 dX11_who_66 (by decide) (fun c_11 => ?_) (fun c_11 => ?_)
            · skip
              have hE := ite_f hE c_11
              refine lv_iinc (v := _ + 1) (lv' := [(3, .int _), (0, .ref _), (1, .int _), (2, .int _), (4, .int _)]) X.1 X.2.1 dX11_who_72 hl (k := 3) rfl rfl (by decide) rfl (fun ls hl => ?_)
              refine lv_iinc (v := _ + 1) (lv' := [(4, .int _), (3, .int _), (0, .ref _), (1, .int _), (2, .int _)]) X.1 X.2.1 dX11_who_75 hl (k := 4) rfl rfl (by decide) rfl (fun ls hl => ?_)
              refine lv_goto (tgt := 28) X.1 X.2.1 dX11_who_78 (by decide) ?_
              exact ih _ _ _ _ _ _ I (lv_sub hl [2, 3, 4, 1, 0] rfl) (Nat.lt_of_lt_of_le (up_decE (by decide) c_4) (Nat.le_of_lt_succ hm)) (hE.trans (rfl))
            · skip
              have hE := ite_t hE c_11
              refine lv_iload X.1 X.2.1 dX11_who_69 (lv_at hl 4 rfl) ?_
              have h9 := hE
              exact r_iret X I (e_i (pr_fst h9) (pr_snd h9) rfl) dX11_who_71
set_option maxHeartbeats 4000000 in
set_option maxRecDepth 100000 in
theorem c11_who (l : Launch) (G : GT) (σ : SI) (τ : SL) (x1 : Int32) (x2 : Int32) : Mc l yX11_who cX11_who 5 (some .int) 4 G [.ref (G.2.1 0), .int x1, .int x2] σ τ (Qi G (Ei (f11_who σ x1 x2).1 (f11_who σ x1 x2).2 τ)) := by
  refine m_start (by decide +kernel) (Nat.le_of_ble_eq_true rfl) rfl (fun p e s m args below meth c ls X I hl => ?_)
  have hl : lv_has ls 5 [(0, .ref (G.2.1 0)), (1, .int x1), (2, .int x2)] := hl
  obtain ⟨E, hE⟩ : ∃ E, E = (f11_who σ x1 x2) := ⟨_, rfl⟩
  rw [← hE]
  refine lv_aload_n X.1 X.2.1 dX11_who_0 rfl (lv_at hl 0 rfl) ?_
  refine g11_3 X I (k := 0) (by decide) rfl lf_X11_35 dX11_who_1 ?_
  refine r_ei I (r_runV X I pk_X8_isTold (c8_isTold l G (k := 10) ⟨by decide, rfl, rfl, rfl⟩ _ _) lm_X11_154 (by decide) (cl_8 rfl) rfl rfl rfl hl.1 rfl (Nat.le_of_ble_eq_true rfl) dX11_who_4 ⟨Nat.le_of_ble_eq_true rfl, Nat.le_of_ble_eq_true rfl⟩ ⟨Nat.le_refl 0, Nat.le_refl 0⟩) (fun H locs I => ?_)
  refine lv_if_eq (tgt := 21) X.1 X.2.1 dX11_who_7 (by decide) (fun c_1 => ?_) (fun c_1 => ?_)
  · skip
    have hE := ite_f hE (b2i_n c_1)
    refine lv_iconst (v := (-1)) X.1 X.2.1 dX11_who_21 (by decide) ?_
    have h9 := hE
    exact r_iret X I (e_i (pr_fst h9) (pr_snd h9) rfl) dX11_who_22
  · skip
    have hE := ite_t hE (b2i_y c_1)
    refine lv_iload_n X.1 X.2.1 dX11_who_10 rfl (lv_at hl 1 rfl) ?_
    refine lv_iconst (v := 1) X.1 X.2.1 dX11_who_11 (by decide) ?_
    refine lv_icmp_lt (tgt := 21) X.1 X.2.1 dX11_who_12 (by decide) (fun c_2 => ?_) (fun c_2 => ?_)
    · skip
      have hE := ite_t hE c_2
      refine lv_iconst (v := (-1)) X.1 X.2.1 dX11_who_21 (by decide) ?_
      have h9 := hE
      exact r_iret X I (e_i (pr_fst h9) (pr_snd h9) rfl) dX11_who_22
    · skip
      have hE := ite_f hE c_2
      refine lv_iload_n X.1 X.2.1 dX11_who_15 rfl (lv_at hl 1 rfl) ?_
      refine lv_bipush (v := 9) X.1 X.2.1 dX11_who_16 (by decide) ?_
      refine lv_icmp_le (tgt := 23) X.1 X.2.1 dX11_who_18 (by decide) (fun c_3 => ?_) (fun c_3 => ?_)
      · skip
        have hE := ite_t hE c_3
        refine lv_iconst (v := 0) X.1 X.2.1 dX11_who_23 (by decide) ?_
        refine lv_istore_n (lv' := [(3, .int _), (0, .ref _), (1, .int _), (2, .int _)]) X.1 X.2.1 dX11_who_24 rfl hl (by decide) rfl (fun ls hl => ?_)
        refine lv_iconst (v := 0) X.1 X.2.1 dX11_who_25 (by decide) ?_
        refine lv_istore (lv' := [(4, .int _), (3, .int _), (0, .ref _), (1, .int _), (2, .int _)]) X.1 X.2.1 dX11_who_26 hl (by decide) rfl (fun ls hl => ?_)
        exact c11_who_c28 X _ _ _ _ _ _ _ _ _ _ I (lv_sub hl [2, 3, 4, 1, 0] rfl) (fu1_lt _) (hE.trans (rfl))
      · skip
        have hE := ite_f hE c_3
        refine lv_iconst (v := (-1)) X.1 X.2.1 dX11_who_21 (by decide) ?_
        have h9 := hE
        exact r_iret X I (e_i (pr_fst h9) (pr_snd h9) rfl) dX11_who_22
noncomputable def f11_odds (σ : SI) (x1 : Int32) (x2 : Int32) : Int32 × SI := if (f8_isTold 10 σ) = true then (if x1 < (0 : Int32) then ((-1 : Int32), σ) else (if (7 : Int32) < x1 then ((-1 : Int32), σ) else (if x2 < (0 : Int32) then ((-1 : Int32), σ) else (if x2 ≤ (100 : Int32) then (let s0 := (f11_orderNow σ); if x1 ≤ (f6_size s0) then (let r1 := (f11_parts s0 (0 : Int32) x1 x2 (s0 24 2) (1000000000 : Int64)); ((Int64.toInt32 r1.1), r1.2)) else ((0 : Int32), s0)) else ((-1 : Int32), σ))))) else ((-1 : Int32), σ)
theorem w_f11_odds (σ : SI) (x1 : Int32) (x2 : Int32) (a : Nat) (h0 : a ≠ 13) (h1 : a ≠ 15) (h2 : a ≠ 36) (h3 : a ≠ 37) (h4 : a ≠ 38) : (f11_odds σ x1 x2).2 a = σ a := by
  refine fp_to2 ?_
  unfold f11_odds
  exact (fr_ite2 (fr_ite2 (fr_mk21 rfl) (fr_ite2 (fr_mk21 rfl) (fr_ite2 (fr_mk21 rfl) (fr_ite2 (fr_ite2 (fr_mk21 ((w_f11_parts _ _ _ _ _ _ a h0 h1).trans (w_f11_orderNow _ a h2 h3 h4))) (fr_mk21 (w_f11_orderNow _ a h2 h3 h4))) (fr_mk21 rfl))))) (fr_mk21 rfl))
set_option maxHeartbeats 4000000 in
set_option maxRecDepth 100000 in
theorem c11_odds (l : Launch) (G : GT) (σ : SI) (τ : SL) (x1 : Int32) (x2 : Int32) : Mc l yX11_odds cX11_odds 3 (some .int) 37 G [.ref (G.2.1 0), .int x1, .int x2] σ τ (Qi G (Ei (f11_odds σ x1 x2).1 (f11_odds σ x1 x2).2 τ)) := by
  refine m_start (by decide +kernel) (Nat.le_of_ble_eq_true rfl) rfl (fun p e s m args below meth c ls X I hl => ?_)
  have hl : lv_has ls 3 [(0, .ref (G.2.1 0)), (1, .int x1), (2, .int x2)] := hl
  obtain ⟨E, hE⟩ : ∃ E, E = (f11_odds σ x1 x2) := ⟨_, rfl⟩
  rw [← hE]
  refine lv_aload_n X.1 X.2.1 dX11_odds_0 rfl (lv_at hl 0 rfl) ?_
  refine g11_3 X I (k := 0) (by decide) rfl lf_X11_35 dX11_odds_1 ?_
  refine r_ei I (r_runV X I pk_X8_isTold (c8_isTold l G (k := 10) ⟨by decide, rfl, rfl, rfl⟩ _ _) lm_X11_154 (by decide) (cl_8 rfl) rfl rfl rfl hl.1 rfl (Nat.le_of_ble_eq_true rfl) dX11_odds_4 ⟨Nat.le_of_ble_eq_true rfl, Nat.le_of_ble_eq_true rfl⟩ ⟨Nat.le_refl 0, Nat.le_refl 0⟩) (fun H locs I => ?_)
  refine lv_if_eq (tgt := 30) X.1 X.2.1 dX11_odds_7 (by decide) (fun c_1 => ?_) (fun c_1 => ?_)
  · skip
    have hE := ite_f hE (b2i_n c_1)
    refine lv_iconst (v := (-1)) X.1 X.2.1 dX11_odds_30 (by decide) ?_
    have h9 := hE
    exact r_iret X I (e_i (pr_fst h9) (pr_snd h9) rfl) dX11_odds_31
  · skip
    have hE := ite_t hE (b2i_y c_1)
    refine lv_iload_n X.1 X.2.1 dX11_odds_10 rfl (lv_at hl 1 rfl) ?_
    refine lv_if_lt (tgt := 30) X.1 X.2.1 dX11_odds_11 (by decide) (fun c_2 => ?_) (fun c_2 => ?_)
    · skip
      have hE := ite_t hE c_2
      refine lv_iconst (v := (-1)) X.1 X.2.1 dX11_odds_30 (by decide) ?_
      have h9 := hE
      exact r_iret X I (e_i (pr_fst h9) (pr_snd h9) rfl) dX11_odds_31
    · skip
      have hE := ite_f hE c_2
      refine lv_iload_n X.1 X.2.1 dX11_odds_14 rfl (lv_at hl 1 rfl) ?_
      refine lv_bipush (v := 7) X.1 X.2.1 dX11_odds_15 (by decide) ?_
      refine lv_icmp_gt (tgt := 30) X.1 X.2.1 dX11_odds_17 (by decide) (fun c_3 => ?_) (fun c_3 => ?_)
      · skip
        have hE := ite_t hE c_3
        refine lv_iconst (v := (-1)) X.1 X.2.1 dX11_odds_30 (by decide) ?_
        have h9 := hE
        exact r_iret X I (e_i (pr_fst h9) (pr_snd h9) rfl) dX11_odds_31
      · skip
        have hE := ite_f hE c_3
        refine lv_iload_n X.1 X.2.1 dX11_odds_20 rfl (lv_at hl 2 rfl) ?_
        refine lv_if_lt (tgt := 30) X.1 X.2.1 dX11_odds_21 (by decide) (fun c_4 => ?_) (fun c_4 => ?_)
        · skip
          have hE := ite_t hE c_4
          refine lv_iconst (v := (-1)) X.1 X.2.1 dX11_odds_30 (by decide) ?_
          have h9 := hE
          exact r_iret X I (e_i (pr_fst h9) (pr_snd h9) rfl) dX11_odds_31
        · skip
          have hE := ite_f hE c_4
          refine lv_iload_n X.1 X.2.1 dX11_odds_24 rfl (lv_at hl 2 rfl) ?_
          refine lv_bipush (v := 100) X.1 X.2.1 dX11_odds_25 (by decide) ?_
          refine lv_icmp_le (tgt := 32) X.1 X.2.1 dX11_odds_27 (by decide) (fun c_5 => ?_) (fun c_5 => ?_)
          · skip
            have hE := ite_t hE c_5
            refine lv_aload_n X.1 X.2.1 dX11_odds_32 rfl (lv_at hl 0 rfl) ?_
            refine r_ev I (r_runV X I pk_X11_orderNow (c11_orderNow l G _ _) lm_X11_326 (by decide) (cl_11 rfl) rfl rfl rfl hl.1 rfl (Nat.le_of_ble_eq_true rfl) dX11_odds_33 ⟨Nat.le_of_ble_eq_true rfl, Nat.le_of_ble_eq_true rfl⟩ ⟨Nat.le_refl 0, Nat.le_refl 0⟩) (fun H locs I => ?_)
            refine lv_iload_n X.1 X.2.1 dX11_odds_36 rfl (lv_at hl 1 rfl) ?_
            refine lv_aload_n X.1 X.2.1 dX11_odds_37 rfl (lv_at hl 0 rfl) ?_
            refine g11_9 X I (k := 0) (by decide) rfl lf_X11_79 dX11_odds_38 ?_
            refine r_ei I (r_runV X I pk_X6_size (c6_size l G _ _) lm_X11_329 (by decide) (cl_6 rfl) rfl rfl rfl hl.1 rfl (Nat.le_of_ble_eq_true rfl) dX11_odds_41 ⟨Nat.le_of_ble_eq_true rfl, Nat.le_of_ble_eq_true rfl⟩ ⟨Nat.le_refl 0, Nat.le_refl 0⟩) (fun H locs I => ?_)
            refine lv_icmp_le (tgt := 51) X.1 X.2.1 dX11_odds_44 (by decide) (fun c_6 => ?_) (fun c_6 => ?_)
            · skip
              have hE := ite_t hE c_6
              refine lv_aload_n X.1 X.2.1 dX11_odds_51 rfl (lv_at hl 0 rfl) ?_
              refine lv_iconst (v := 0) X.1 X.2.1 dX11_odds_52 (by decide) ?_
              refine lv_iload_n X.1 X.2.1 dX11_odds_53 rfl (lv_at hl 1 rfl) ?_
              refine lv_iload_n X.1 X.2.1 dX11_odds_54 rfl (lv_at hl 2 rfl) ?_
              refine lv_aload_n X.1 X.2.1 dX11_odds_55 rfl (lv_at hl 0 rfl) ?_
              refine g11_5 X I (k := 0) (by decide) rfl lf_X11_49 dX11_odds_56 ?_
              refine g0_2 X I (k := 24) (by decide) rfl lf_X11_213 dX11_odds_59 ?_
              refine lv_ldc2 X.1 X.2.1 (v := 1000000000) X.2.2.2.2.1 (X.2.2.2.1 _ lq_X11_435) dX11_odds_62 ?_
              refine r_el I (r_runV X I pk_X11_partsThrough (c11_parts l G _ _ _ _ _ _ _ (by decide)) lm_X11_437 (by decide) (cl_11 rfl) rfl rfl rfl hl.1 rfl (Nat.le_of_ble_eq_true rfl) dX11_odds_65 ⟨Nat.le_of_ble_eq_true rfl, Nat.le_of_ble_eq_true rfl⟩ ⟨Nat.le_refl 0, Nat.le_refl 0⟩) (fun H locs I => ?_)
              refine lv_l2i X.1 X.2.1 dX11_odds_68 rfl ?_
              have h9 := hE
              exact r_iret X I (e_i (pr_fst h9) (pr_snd h9) rfl) dX11_odds_69
            · skip
              have hE := ite_f hE c_6
              refine lv_iconst (v := 0) X.1 X.2.1 dX11_odds_47 (by decide) ?_
              refine lv_goto (tgt := 69) X.1 X.2.1 dX11_odds_48 (by decide) ?_
              have h9 := hE
              exact r_iret X I (e_i (pr_fst h9) (pr_snd h9) rfl) dX11_odds_69
          · skip
            have hE := ite_f hE c_5
            refine lv_iconst (v := (-1)) X.1 X.2.1 dX11_odds_30 (by decide) ?_
            have h9 := hE
            exact r_iret X I (e_i (pr_fst h9) (pr_snd h9) rfl) dX11_odds_31
noncomputable def f11_grievancesIn_c4 (σ : SI) (x1 : Int32) : Nat → Int32 → Int32 → Int32
  | 0, _, _ => 0
  | fu + 1, v2, v3 => if (f8_houses 10 σ) ≤ v3 then v2 else (f11_grievancesIn_c4 σ x1 fu (v2 + (f11_grown σ v3 x1)) (v3 + 1))
noncomputable def f11_grievancesIn (σ : SI) (x1 : Int32) : Int32 := (f11_grievancesIn_c4 σ x1 (fu1 ((Int32.toInt (f8_houses 10 σ) - Int32.toInt (0 : Int32)).toNat)) (0 : Int32) (0 : Int32))
set_option maxHeartbeats 4000000 in
set_option maxRecDepth 100000 in
theorem c11_grievancesIn_c4 {l : Launch} {p : Program} {e : Env} {s : State} {m : MethodId} {args : Array Value} {below : List Frame} {meth : Method} {c : Code} {G : GT} (X : CX p s m args meth c cX11_grievancesIn RX11 4 (some .int) G) {E : Int32} (σ : SI) (τ : SL) (x1 : Int32) : ∀ (fu : Nat) (v2 : Int32) (v3 : Int32) (H : Heap) (locs : List Loc) (ls : Array Slot), IX G s H locs σ τ → lv_has ls 4 [(0, .ref (G.2.1 0)), (1, .int x1), (2, .int v2), (3, .int v3)] → (Int32.toInt (f8_houses 10 σ) - Int32.toInt v3).toNat < fu → E = (f11_grievancesIn_c4 σ x1 fu v2 v3) → W p l e (rmN 3) s m args below meth c H locs 0 0 (MQ below ((Qi G (Ei E σ τ)) s.heap.size) args s 0 0 (AW G s.heap.size)) (F0 m 4 ls []) := by
  intro fu
  induction fu with
  | zero =>
    intro v2 v3 H locs ls I hl  hm hE
    exact absurd hm (Nat.not_lt_zero _)
  | succ fu ih =>
    intro v2 v3 H locs ls I hl  hm hE
    refine lv_iload_n X.1 X.2.1 dX11_grievancesIn_4 rfl (lv_at hl 3 rfl) ?_
    refine lv_aload_n X.1 X.2.1 dX11_grievancesIn_5 rfl (lv_at hl 0 rfl) ?_
    refine g11_3 X I (k := 0) (by decide) rfl lf_X11_35 dX11_grievancesIn_6 ?_
    refine r_ei I (r_runV X I pk_X8_houses (c8_houses l G (k := 10) ⟨by decide, rfl, rfl, rfl⟩ _ _) lm_X11_151 (by decide) (cl_8 rfl) rfl rfl rfl hl.1 rfl (Nat.le_of_ble_eq_true rfl) dX11_grievancesIn_9 ⟨Nat.le_of_ble_eq_true rfl, Nat.le_of_ble_eq_true rfl⟩ ⟨Nat.le_refl 0, Nat.le_refl 0⟩) (fun H locs I => ?_)
    refine lv_icmp_ge (tgt := 30) X.1 X.2.1 dX11_grievancesIn_12 (by decide) (fun c_1 => ?_) (fun c_1 => ?_)
    · skip
      have hE := ite_t hE c_1
      refine lv_iload_n X.1 X.2.1 dX11_grievancesIn_30 rfl (lv_at hl 2 rfl) ?_
      have h9 := hE
      exact r_iret X I (e_i h9.symm rfl rfl) dX11_grievancesIn_31
    · skip
      have hE := ite_f hE c_1
      refine lv_iload_n X.1 X.2.1 dX11_grievancesIn_15 rfl (lv_at hl 2 rfl) ?_
      refine lv_aload_n X.1 X.2.1 dX11_grievancesIn_16 rfl (lv_at hl 0 rfl) ?_
      refine lv_iload_n X.1 X.2.1 dX11_grievancesIn_17 rfl (lv_at hl 3 rfl) ?_
      refine lv_iload_n X.1 X.2.1 dX11_grievancesIn_18 rfl (lv_at hl 1 rfl) ?_
      refine r_ei I (r_runV X I pk_X11_grown (c11_grown l G _ _ _ _) lm_X11_280 (by decide) (cl_11 rfl) rfl rfl rfl hl.1 rfl (Nat.le_of_ble_eq_true rfl) dX11_grievancesIn_19 ⟨Nat.le_of_ble_eq_true rfl, Nat.le_of_ble_eq_true rfl⟩ ⟨Nat.le_refl 0, Nat.le_refl 0⟩) (fun H locs I => ?_)
      refine lv_iadd X.1 X.2.1 dX11_grievancesIn_22 ?_
      refine lv_istore_n (lv' := [(2, .int _), (0, .ref _), (1, .int _), (3, .int _)]) X.1 X.2.1 dX11_grievancesIn_23 rfl hl (by decide) rfl (fun ls hl => ?_)
      refine lv_iinc (v := _ + 1) (lv' := [(3, .int _), (2, .int _), (0, .ref _), (1, .int _)]) X.1 X.2.1 dX11_grievancesIn_24 hl (k := 3) rfl rfl (by decide) rfl (fun ls hl => ?_)
      refine lv_goto (tgt := 4) X.1 X.2.1 dX11_grievancesIn_27 (by decide) ?_
      exact ih _ _ _ _ _ I (lv_sub hl [2, 3, 1, 0] rfl) (Nat.lt_of_lt_of_le (up_dec c_1) (Nat.le_of_lt_succ hm)) (hE.trans (rfl))
set_option maxHeartbeats 4000000 in
set_option maxRecDepth 100000 in
theorem c11_grievancesIn (l : Launch) (G : GT) (σ : SI) (τ : SL) (x1 : Int32) : Mc l yX11_grievancesIn cX11_grievancesIn 4 (some .int) 3 G [.ref (G.2.1 0), .int x1] σ τ (Qi G (Ei (f11_grievancesIn σ x1) σ τ)) := by
  refine m_start (by decide +kernel) (Nat.le_of_ble_eq_true rfl) rfl (fun p e s m args below meth c ls X I hl => ?_)
  have hl : lv_has ls 4 [(0, .ref (G.2.1 0)), (1, .int x1)] := hl
  obtain ⟨E, hE⟩ : ∃ E, E = (f11_grievancesIn σ x1) := ⟨_, rfl⟩
  rw [← hE]
  refine lv_iconst (v := 0) X.1 X.2.1 dX11_grievancesIn_0 (by decide) ?_
  refine lv_istore_n (lv' := [(2, .int _), (0, .ref _), (1, .int _)]) X.1 X.2.1 dX11_grievancesIn_1 rfl hl (by decide) rfl (fun ls hl => ?_)
  refine lv_iconst (v := 0) X.1 X.2.1 dX11_grievancesIn_2 (by decide) ?_
  refine lv_istore_n (lv' := [(3, .int _), (2, .int _), (0, .ref _), (1, .int _)]) X.1 X.2.1 dX11_grievancesIn_3 rfl hl (by decide) rfl (fun ls hl => ?_)
  exact c11_grievancesIn_c4 X _ _ _ _ _ _ _ _ _ I (lv_sub hl [2, 3, 1, 0] rfl) (fu1_lt _) (hE.trans (rfl))
