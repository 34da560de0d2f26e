def f7_takes (σ : SI) (x1 : Int32) : Bool × SI := let r0 := (f7_peek σ); if r0.1 = x1 then (let s1 := (f7_pass r0.2); (true, s1)) else (let r2 := (f7_fails r0.2); (r2.1, r2.2))
theorem w_f7_takes (σ : SI) (x1 : Int32) (a : Nat) (h0 : a ≠ 1) : (f7_takes σ x1).2 a = σ a := by
  unfold f7_takes
  (repeat' split) <;> (first | rfl | (simp only [sp_n, su_n, ne_eq, not_false_eq_true, h0, w_f7_fails, w_f7_pass, w_f7_peek]; done) | (simp [sp_n, su_n, ne_eq, not_false_eq_true, h0, w_f7_fails, w_f7_pass, w_f7_peek]; done))
set_option maxHeartbeats 4000000 in
set_option maxRecDepth 100000 in
theorem c7_takes (l : Launch) (G : GT) (σ : SI) (τ : SL) (x1 : Int32) : Mc l yX7_takes cX7_takes 2 (some .boolean) 2 G [.ref (G.2.1 1), .int x1] σ τ (Qi G (Ei (b2i (f7_takes σ x1).1) (f7_takes σ x1).2 τ)) := by
  refine m_start (by decide +kernel) (Nat.le_of_ble_eq_true rfl) rfl (fun p e s m args below meth c ls X I hl => ?_)
  have hl : lv_has ls 2 [(0, .ref (G.2.1 1)), (1, .int x1)] := hl
  obtain ⟨E, hE⟩ : ∃ E, E = (f7_takes σ x1) := ⟨_, rfl⟩
  rw [← hE]
  refine lv_aload_n X.1 X.2.1 dX7_takes_0 rfl (lv_at hl 0 rfl) ?_
  refine r_ei I (r_runV X I pk_X7_peek (c7_peek l G _ _) lm_X7_29 (by decide) (cl_7 rfl) rfl rfl rfl hl.1 rfl (Nat.le_of_ble_eq_true rfl) dX7_takes_1 ⟨Nat.le_of_ble_eq_true rfl, Nat.le_of_ble_eq_true rfl⟩ ⟨Nat.le_refl 0, Nat.le_refl 0⟩) (fun H locs I => ?_)
  refine lv_iload_n X.1 X.2.1 dX7_takes_4 rfl (lv_at hl 1 rfl) ?_
  refine lv_icmp_eq (tgt := 13) X.1 X.2.1 dX7_takes_5 (by decide) (fun c_1 => ?_) (fun c_1 => ?_)
  · skip
    refine lv_aload_n X.1 X.2.1 dX7_takes_13 rfl (lv_at hl 0 rfl) ?_
    refine r_ev I (r_runV X I pk_X7_pass (c7_pass l G _ _) lm_X7_36 (by decide) (cl_7 rfl) rfl rfl rfl hl.1 rfl (Nat.le_of_ble_eq_true rfl) dX7_takes_14 ⟨Nat.le_of_ble_eq_true rfl, Nat.le_of_ble_eq_true rfl⟩ ⟨Nat.le_refl 0, Nat.le_refl 0⟩) (fun H locs I => ?_)
    refine lv_iconst (v := 1) X.1 X.2.1 dX7_takes_17 (by decide) ?_
    have h9 := hE.trans ((if_pos c_1).trans rfl)
    exact r_zret X I rfl (e_i (congrArg b2i (congrArg Prod.fst h9)).symm (congrArg Prod.snd h9).symm rfl) dX7_takes_18
  · skip
    refine lv_aload_n X.1 X.2.1 dX7_takes_8 rfl (lv_at hl 0 rfl) ?_
    refine r_ei I (r_runV X I pk_X7_fails (c7_fails l G _ _) lm_X7_32 (by decide) (cl_7 rfl) rfl rfl rfl hl.1 rfl (Nat.le_of_ble_eq_true rfl) dX7_takes_9 ⟨Nat.le_of_ble_eq_true rfl, Nat.le_of_ble_eq_true rfl⟩ ⟨Nat.le_refl 0, Nat.le_refl 0⟩) (fun H locs I => ?_)
    have h9 := hE.trans ((if_neg c_1).trans rfl)
    exact r_zret X I (b2i_nar _) (e_i (congrArg b2i (congrArg Prod.fst h9)).symm (congrArg Prod.snd h9).symm rfl) dX7_takes_12
def f3_readsAtom (S : SI → Int32 → Bool × SI) (σ : SI) (x1 : Int32) : Bool × SI := let r0 := (f7_peek σ); if (f11_isDigit r0.1) = true then (let r8 := (f7_takeNumber r0.2 (4 : Int32)); let s9 := (f1_add 8 r8.2 r8.1); if r8.1 = (-1 : Int32) then (false, s9) else (true, s9)) else (if (f3_isLetter r0.1) = true then (let s6 := (f7_pass r0.2); let s7 := (f1_add 8 s6 (-r0.1)); (true, s7)) else (if r0.1 = (91 : Int32) then (if x1 < (6 : Int32) then (let s2 := (f7_pass r0.2); let r3 := (S s2 (x1 + (1 : Int32))); if r3.1 = true then (let r4 := (f7_takes r3.2 (93 : Int32)); if r4.1 = true then (true, r4.2) else (false, r4.2)) else (false, r3.2)) else (let r5 := (f7_fails r0.2); (r5.1, r5.2))) else (let r1 := (f7_fails r0.2); (r1.1, r1.2))))
theorem w_f3_readsAtom {S : SI → Int32 → Bool × SI} (hS : ∀ (σ : SI) (x1 : Int32) (b : Nat), b ≠ 1 → b ≠ 8 → b ≠ 9 → (S σ x1).2 b = σ b) (σ : SI) (x1 : Int32) (a : Nat) (h0 : a ≠ 1) (h1 : a ≠ 8) (h2 : a ≠ 9) : (f3_readsAtom S σ x1).2 a = σ a := by
  unfold f3_readsAtom
  (repeat' split) <;> (first | rfl | (simp only [sp_n, su_n, ne_eq, not_false_eq_true, h0, h1, h2, w_f1_add, w_f7_fails, w_f7_pass, w_f7_peek, w_f7_takeNumber, w_f7_takes, hS]; done) | (simp [sp_n, su_n, ne_eq, not_false_eq_true, h0, h1, h2, w_f1_add, w_f7_fails, w_f7_pass, w_f7_peek, w_f7_takeNumber, w_f7_takes, hS]; done))
set_option maxHeartbeats 4000000 in
set_option maxRecDepth 100000 in
theorem c3_readsAtom (l : Launch) (G : GT) {S : SI → Int32 → Bool × SI} {D : Nat} (hS : ∀ (σ : SI) (τ : SL) (x1 : Int32), (Int32.toInt 6 - Int32.toInt x1).toNat < D → Mc l yX3_readsSum cX3_readsSum 4 (some .boolean) (10 + 3 * D) G [.ref (G.2.1 7), .int x1] σ τ (Qi G (Ei (b2i (S σ x1).1) (S σ x1).2 τ))) (σ : SI) (τ : SL) (x1 : Int32) (hx : (Int32.toInt 6 - Int32.toInt x1).toNat < D + 1) : Mc l yX3_readsAtom cX3_readsAtom 4 (some .boolean) (10 + 3 * D + 1) G [.ref (G.2.1 7), .int x1] σ τ (Qi G (Ei (b2i (f3_readsAtom S σ x1).1) (f3_readsAtom S σ x1).2 τ)) := by
  refine m_start (by decide +kernel) (Nat.le_of_ble_eq_true rfl) rfl (fun p e s m args below meth c ls X I hl => ?_)
  have hl : lv_has ls 4 [(0, .ref (G.2.1 7)), (1, .int x1)] := hl
  obtain ⟨E, hE⟩ : ∃ E, E = (f3_readsAtom S σ x1) := ⟨_, rfl⟩
  rw [← hE]
  refine lv_aload_n X.1 X.2.1 dX3_readsAtom_0 rfl (lv_at hl 0 rfl) ?_
  refine g3_0 X I (k := 7) (by decide) rfl lf_X3_9 dX3_readsAtom_1 ?_
  refine r_ei I (r_runV X I pk_X7_peek (c7_peek l G _ _) lm_X3_38 (by decide) (cl_7 rfl) rfl rfl rfl hl.1 rfl (Nat.le_of_ble_eq_true rfl) dX3_readsAtom_4 (hr_le (by omega) (by decide)) ⟨Nat.le_refl 0, Nat.le_refl 0⟩) (fun H locs I => ?_)
  refine lv_istore_n (lv' := [(2, .int _), (0, .ref _), (1, .int _)]) X.1 X.2.1 dX3_readsAtom_7 rfl hl (by decide) rfl (fun ls hl => ?_)
  refine lv_iload_n X.1 X.2.1 dX3_readsAtom_8 rfl (lv_at hl 0 rfl) ?_
  refine r_ei I (r_runN X I pk_X11_isDigit (c11_isDigit l G _ _ _) (by decide +kernel) rfl hl.1 rfl (Nat.le_of_ble_eq_true rfl) dX3_readsAtom_9 (hr_le (by omega) (by decide)) ⟨Nat.le_refl 0, Nat.le_refl 0⟩) (fun H locs I => ?_)
  refine lv_if_eq (tgt := 43) X.1 X.2.1 dX3_readsAtom_12 (by decide) (fun c_1 => ?_) (fun c_1 => ?_)
  · skip
    refine lv_iload_n X.1 X.2.1 dX3_readsAtom_43 rfl (lv_at hl 0 rfl) ?_
    refine r_ei I (r_runS X I pk_X3_isLetter (c3_isLetter l G _ _ _) lm_X3_87 rfl hl.1 rfl (Nat.le_of_ble_eq_true rfl) dX3_readsAtom_44 (hr_le (by omega) (by decide)) ⟨Nat.le_refl 0, Nat.le_refl 0⟩) (fun H locs I => ?_)
    refine lv_if_eq (tgt := 68) X.1 X.2.1 dX3_readsAtom_47 (by decide) (fun c_2 => ?_) (fun c_2 => ?_)
    · skip
      refine lv_iload_n X.1 X.2.1 dX3_readsAtom_68 rfl (lv_at hl 0 rfl) ?_
      refine lv_bipush (v := 91) X.1 X.2.1 dX3_readsAtom_69 (by decide) ?_
      refine lv_icmp_ne (tgt := 80) X.1 X.2.1 dX3_readsAtom_71 (by decide) (fun c_3 => ?_) (fun c_3 => ?_)
      · skip
        refine lv_aload_n X.1 X.2.1 dX3_readsAtom_80 rfl (lv_at hl 1 rfl) ?_
        refine g3_0 X I (k := 7) (by decide) rfl lf_X3_9 dX3_readsAtom_81 ?_
        refine r_ei I (r_runV X I pk_X7_fails (c7_fails l G _ _) lm_X3_46 (by decide) (cl_7 rfl) rfl rfl rfl hl.1 rfl (Nat.le_of_ble_eq_true rfl) dX3_readsAtom_84 (hr_le (by omega) (by decide)) ⟨Nat.le_refl 0, Nat.le_refl 0⟩) (fun H locs I => ?_)
        have h9 := hE.trans ((if_neg (b2i_n c_1)).trans ((if_neg (b2i_n c_2)).trans ((if_neg c_3).trans rfl)))
        exact r_zret X I (b2i_nar _) (e_i (congrArg b2i (congrArg Prod.fst h9)).symm (congrArg Prod.snd h9).symm rfl) dX3_readsAtom_87
      · skip
        refine lv_iload_n X.1 X.2.1 dX3_readsAtom_74 rfl (lv_at hl 2 rfl) ?_
        refine lv_bipush (v := 6) X.1 X.2.1 dX3_readsAtom_75 (by decide) ?_
        refine lv_icmp_lt (tgt := 88) X.1 X.2.1 dX3_readsAtom_77 (by decide) (fun c_4 => ?_) (fun c_4 => ?_)
        · skip
          refine lv_aload_n X.1 X.2.1 dX3_readsAtom_88 rfl (lv_at hl 1 rfl) ?_
          refine g3_0 X I (k := 7) (by decide) rfl lf_X3_9 dX3_readsAtom_89 ?_
          refine r_ev I (r_runV X I pk_X7_pass (c7_pass l G _ _) lm_X3_68 (by decide) (cl_7 rfl) rfl rfl rfl hl.1 rfl (Nat.le_of_ble_eq_true rfl) dX3_readsAtom_92 (hr_le (by omega) (by decide)) ⟨Nat.le_refl 0, Nat.le_refl 0⟩) (fun H locs I => ?_)
          refine lv_aload_n X.1 X.2.1 dX3_readsAtom_95 rfl (lv_at hl 1 rfl) ?_
          refine lv_iload_n X.1 X.2.1 dX3_readsAtom_96 rfl (lv_at hl 2 rfl) ?_
          refine lv_iconst (v := 1) X.1 X.2.1 dX3_readsAtom_97 (by decide) ?_
          refine lv_iadd X.1 X.2.1 dX3_readsAtom_98 ?_
          refine r_ei I (r_runV X I pk_X3_readsSum (hS _ _ _ (Nat.lt_of_lt_of_le (up_dec (vp_lt c_4)) (Nat.le_of_lt_succ hx))) lm_X3_56 (by decide) (cl_3 rfl) rfl rfl rfl hl.1 rfl (Nat.le_of_ble_eq_true rfl) dX3_readsAtom_99 (hr_le (by omega) (by decide)) ⟨Nat.le_refl 0, Nat.le_refl 0⟩) (fun H locs I => ?_)
          refine lv_if_eq (tgt := 121) X.1 X.2.1 dX3_readsAtom_102 (by decide) (fun c_5 => ?_) (fun c_5 => ?_)
          · skip
            refine lv_iconst (v := 0) X.1 X.2.1 dX3_readsAtom_121 (by decide) ?_
            have h9 := hE.trans ((if_neg (b2i_n c_1)).trans ((if_neg (b2i_n c_2)).trans ((if_pos c_3).trans ((if_pos c_4).trans ((if_neg (b2i_n c_5)).trans rfl)))))
            exact r_zret X I rfl (e_i (congrArg b2i (congrArg Prod.fst h9)).symm (congrArg Prod.snd h9).symm rfl) dX3_readsAtom_122
          · skip
            refine lv_aload_n X.1 X.2.1 dX3_readsAtom_105 rfl (lv_at hl 1 rfl) ?_
            refine g3_0 X I (k := 7) (by decide) rfl lf_X3_9 dX3_readsAtom_106 ?_
            refine lv_bipush (v := 93) X.1 X.2.1 dX3_readsAtom_109 (by decide) ?_
            refine r_ei I (r_runV X I pk_X7_takes (c7_takes l G _ _ _) lm_X3_42 (by decide) (cl_7 rfl) rfl rfl rfl hl.1 rfl (Nat.le_of_ble_eq_true rfl) dX3_readsAtom_111 (hr_le (by omega) (by decide)) ⟨Nat.le_refl 0, Nat.le_refl 0⟩) (fun H locs I => ?_)
            refine lv_if_eq (tgt := 121) X.1 X.2.1 dX3_readsAtom_114 (by decide) (fun c_6 => ?_) (fun c_6 => ?_)
            · skip
              refine lv_iconst (v := 0) X.1 X.2.1 dX3_readsAtom_121 (by decide) ?_
              have h9 := hE.trans ((if_neg (b2i_n c_1)).trans ((if_neg (b2i_n c_2)).trans ((if_pos c_3).trans ((if_pos c_4).trans ((if_pos (b2i_y c_5)).trans ((if_neg (b2i_n c_6)).trans rfl))))))
              exact r_zret X I rfl (e_i (congrArg b2i (congrArg Prod.fst h9)).symm (congrArg Prod.snd h9).symm rfl) dX3_readsAtom_122
            · skip
              refine lv_iconst (v := 1) X.1 X.2.1 dX3_readsAtom_117 (by decide) ?_
              refine lv_goto (tgt := 122) X.1 X.2.1 dX3_readsAtom_118 (by decide) ?_
              have h9 := hE.trans ((if_neg (b2i_n c_1)).trans ((if_neg (b2i_n c_2)).trans ((if_pos c_3).trans ((if_pos c_4).trans ((if_pos (b2i_y c_5)).trans ((if_pos (b2i_y c_6)).trans rfl))))))
              exact r_zret X I rfl (e_i (congrArg b2i (congrArg Prod.fst h9)).symm (congrArg Prod.snd h9).symm rfl) dX3_readsAtom_122
        · skip
          refine lv_aload_n X.1 X.2.1 dX3_readsAtom_80 rfl (lv_at hl 1 rfl) ?_
          refine g3_0 X I (k := 7) (by decide) rfl lf_X3_9 dX3_readsAtom_81 ?_
          refine r_ei I (r_runV X I pk_X7_fails (c7_fails l G _ _) lm_X3_46 (by decide) (cl_7 rfl) rfl rfl rfl hl.1 rfl (Nat.le_of_ble_eq_true rfl) dX3_readsAtom_84 (hr_le (by omega) (by decide)) ⟨Nat.le_refl 0, Nat.le_refl 0⟩) (fun H locs I => ?_)
          have h9 := hE.trans ((if_neg (b2i_n c_1)).trans ((if_neg (b2i_n c_2)).trans ((if_pos c_3).trans ((if_neg c_4).trans rfl))))
          exact r_zret X I (b2i_nar _) (e_i (congrArg b2i (congrArg Prod.fst h9)).symm (congrArg Prod.snd h9).symm rfl) dX3_readsAtom_87
    · skip
      refine lv_aload_n X.1 X.2.1 dX3_readsAtom_50 rfl (lv_at hl 1 rfl) ?_
      refine g3_0 X I (k := 7) (by decide) rfl lf_X3_9 dX3_readsAtom_51 ?_
      refine r_ev I (r_runV X I pk_X7_pass (c7_pass l G _ _) lm_X3_68 (by decide) (cl_7 rfl) rfl rfl rfl hl.1 rfl (Nat.le_of_ble_eq_true rfl) dX3_readsAtom_54 (hr_le (by omega) (by decide)) ⟨Nat.le_refl 0, Nat.le_refl 0⟩) (fun H locs I => ?_)
      refine lv_aload_n X.1 X.2.1 dX3_readsAtom_57 rfl (lv_at hl 1 rfl) ?_
      refine g3_1 X I (k := 7) (by decide) rfl lf_X3_18 dX3_readsAtom_58 ?_
      refine lv_iload_n X.1 X.2.1 dX3_readsAtom_61 rfl (lv_at hl 0 rfl) ?_
      refine lv_ineg X.1 X.2.1 dX3_readsAtom_62 ?_
      refine r_ev I (r_runV X I pk_X1_add (c1_add l G (k := 8) ⟨by decide, rfl, rfl⟩ _ _ _) lm_X3_34 (by decide) (cl_1 rfl) rfl rfl rfl hl.1 rfl (Nat.le_of_ble_eq_true rfl) dX3_readsAtom_63 (hr_le (by omega) (by decide)) ⟨Nat.le_refl 0, Nat.le_refl 0⟩) (fun H locs I => ?_)
      refine lv_iconst (v := 1) X.1 X.2.1 dX3_readsAtom_66 (by decide) ?_
      have h9 := hE.trans ((if_neg (b2i_n c_1)).trans ((if_pos (b2i_y c_2)).trans rfl))
      exact r_zret X I rfl (e_i (congrArg b2i (congrArg Prod.fst h9)).symm (congrArg Prod.snd h9).symm rfl) dX3_readsAtom_67
  · skip
    refine lv_aload_n X.1 X.2.1 dX3_readsAtom_15 rfl (lv_at hl 1 rfl) ?_
    refine g3_0 X I (k := 7) (by decide) rfl lf_X3_9 dX3_readsAtom_16 ?_
    refine lv_iconst (v := 4) X.1 X.2.1 dX3_readsAtom_19 (by decide) ?_
    refine r_ei I (r_runV X I pk_X7_takeNumber (c7_takeNumber l G _ _ _ (by decide)) lm_X3_83 (by decide) (cl_7 rfl) rfl rfl rfl hl.1 rfl (Nat.le_of_ble_eq_true rfl) dX3_readsAtom_20 (hr_le (by omega) (by decide)) ⟨Nat.le_refl 0, Nat.le_refl 0⟩) (fun H locs I => ?_)
    refine lv_istore_n (lv' := [(3, .int _), (2, .int _), (0, .ref _), (1, .int _)]) X.1 X.2.1 dX3_readsAtom_23 rfl hl (by decide) rfl (fun ls hl => ?_)
    refine lv_aload_n X.1 X.2.1 dX3_readsAtom_24 rfl (lv_at hl 2 rfl) ?_
    refine g3_1 X I (k := 7) (by decide) rfl lf_X3_18 dX3_readsAtom_25 ?_
    refine lv_iload_n X.1 X.2.1 dX3_readsAtom_28 rfl (lv_at hl 0 rfl) ?_
    refine r_ev I (r_runV X I pk_X1_add (c1_add l G (k := 8) ⟨by decide, rfl, rfl⟩ _ _ _) lm_X3_34 (by decide) (cl_1 rfl) rfl rfl rfl hl.1 rfl (Nat.le_of_ble_eq_true rfl) dX3_readsAtom_29 (hr_le (by omega) (by decide)) ⟨Nat.le_refl 0, Nat.le_refl 0⟩) (fun H locs I => ?_)
    refine lv_iload_n X.1 X.2.1 dX3_readsAtom_32 rfl (lv_at hl 0 rfl) ?_
    refine lv_iconst (v := (-1)) X.1 X.2.1 dX3_readsAtom_33 (by decide) ?_
    refine lv_icmp_eq (tgt := 41) X.1 X.2.1 dX3_readsAtom_34 (by decide) (fun c_7 => ?_) (fun c_7 => ?_)
    · skip
      refine lv_iconst (v := 0) X.1 X.2.1 dX3_readsAtom_41 (by decide) ?_
      have h9 := hE.trans ((if_pos (b2i_y c_1)).trans ((if_pos c_7).trans rfl))
      exact r_zret X I rfl (e_i (congrArg b2i (congrArg Prod.fst h9)).symm (congrArg Prod.snd h9).symm rfl) dX3_readsAtom_42
    · skip
      refine lv_iconst (v := 1) X.1 X.2.1 dX3_readsAtom_37 (by decide) ?_
      refine lv_goto (tgt := 42) X.1 X.2.1 dX3_readsAtom_38 (by decide) ?_
      have h9 := hE.trans ((if_pos (b2i_y c_1)).trans ((if_neg c_7).trans rfl))
      exact r_zret X I rfl (e_i (congrArg b2i (congrArg Prod.fst h9)).symm (congrArg Prod.snd h9).symm rfl) dX3_readsAtom_42
def f3_readsTerm_c12 (A : SI → Int32 → Bool × SI) (x1 : Int32) : Nat → Int32 → SI → (Bool × SI)
  | 0, _, σ => (false, σ)
  | fu + 1, v2, σ => if (240 : Int32) ≤ v2 then (let r1 := (f7_fails σ); (r1.1, r1.2)) else (let r2 := (f7_peek σ); if r2.1 = (42 : Int32) then (let s3 := (f7_pass r2.2); let r4 := (A s3 x1); if r4.1 = true then (let s5 := (f1_add 8 r4.2 (-r2.1)); (f3_readsTerm_c12 A x1 fu (v2 + 1) s5)) else (false, r4.2)) else (if r2.1 = (47 : Int32) then (let s6 := (f7_pass r2.2); let r7 := (A s6 x1); if r7.1 = true then (let s8 := (f1_add 8 r7.2 (-r2.1)); (f3_readsTerm_c12 A x1 fu (v2 + 1) s8)) else (false, r7.2)) else (true, r2.2)))
def f3_readsTerm (A : SI → Int32 → Bool × SI) (σ : SI) (x1 : Int32) : Bool × SI := let r0 := (A σ x1); if r0.1 = true then (f3_readsTerm_c12 A x1 ((Int32.toInt (240 : Int32) - Int32.toInt (0 : Int32)).toNat + 1) (0 : Int32) r0.2) else (false, r0.2)
theorem w_f3_readsTerm_c12 {A : SI → Int32 → Bool × SI} (hA : ∀ (σ : SI) (x1 : Int32) (b : Nat), b ≠ 1 → b ≠ 8 → b ≠ 9 → (A σ x1).2 b = σ b) (x1 : Int32) (a : Nat) (h0 : a ≠ 1) (h1 : a ≠ 8) (h2 : a ≠ 9) : ∀ (fu : Nat) (v2 : Int32) (σ : SI), (f3_readsTerm_c12 A x1 fu v2 σ).2 a = σ a := by
  intro fu
  induction fu with
  | zero => intros; rfl
  | succ fu ih =>
    intro v2 σ
    unfold f3_readsTerm_c12
    (repeat' split) <;> (first | rfl | (simp only [sp_n, su_n, ne_eq, not_false_eq_true, h0, h1, h2, w_f1_add, w_f7_fails, w_f7_pass, w_f7_peek, hA, ih]; done) | (simp [sp_n, su_n, ne_eq, not_false_eq_true, h0, h1, h2, w_f1_add, w_f7_fails, w_f7_pass, w_f7_peek, hA, ih]; done))
theorem w_f3_readsTerm {A : SI → Int32 → Bool × SI} (hA : ∀ (σ : SI) (x1 : Int32) (b : Nat), b ≠ 1 → b ≠ 8 → b ≠ 9 → (A σ x1).2 b = σ b) (σ : SI) (x1 : Int32) (a : Nat) (h0 : a ≠ 1) (h1 : a ≠ 8) (h2 : a ≠ 9) : (f3_readsTerm A σ x1).2 a = σ a := by
  unfold f3_readsTerm
  (repeat' split) <;> (first | rfl | (simp only [sp_n, su_n, ne_eq, not_false_eq_true, h0, h1, h2, w_f1_add, w_f7_fails, w_f7_pass, w_f7_peek, hA, w_f3_readsTerm_c12]; done) | (simp [sp_n, su_n, ne_eq, not_false_eq_true, h0, h1, h2, w_f1_add, w_f7_fails, w_f7_pass, w_f7_peek, hA, w_f3_readsTerm_c12]; done))
set_option maxHeartbeats 4000000 in
set_option maxRecDepth 100000 in
theorem c3_readsTerm_c12 {l : Launch} {p : Program} {e : Env} {s : State} {m : MethodId} {args : Array Value} {below : List Frame} {meth : Method} {c : Code} {G : GT} (X : CX p s m args meth c cX3_readsTerm RX3 4 (some .boolean) G) {A : SI → Int32 → Bool × SI} {D : Nat} (hA : ∀ (σ : SI) (τ : SL) (x1 : Int32), (Int32.toInt 6 - Int32.toInt x1).toNat < D + 1 → Mc l yX3_readsAtom cX3_readsAtom 4 (some .boolean) (10 + 3 * D + 1) G [.ref (G.2.1 7), .int x1] σ τ (Qi G (Ei (b2i (A σ x1).1) (A σ x1).2 τ))) {E : Bool × SI} (τ : SL) (x1 : Int32) (hx : (Int32.toInt 6 - Int32.toInt x1).toNat < D + 1) : ∀ (fu : Nat) (v2 : Int32) (σ : SI) (H : Heap) (locs : List Loc) (ls : Array Slot), IX G s H locs σ τ → lv_has ls 4 [(0, .ref (G.2.1 7)), (1, .int x1), (2, .int v2)] → (Int32.toInt (240 : Int32) - Int32.toInt v2).toNat < fu → E = (f3_readsTerm_c12 A x1 fu v2 σ) → W p l e (rmN (10 + 3 * D + 2)) s m args below meth c H locs 0 0 (MQ below ((Qi G (Ei (b2i E.1) E.2 τ)) s.heap.size) args s 0 0 (AW G s.heap.size)) (F0 m 12 ls []) := by
  intro fu
  induction fu with
  | zero =>
    intro v2 σ H locs ls I hl  hm hE
    exact absurd hm (Nat.not_lt_zero _)
  | succ fu ih =>
    intro v2 σ H locs ls I hl  hm hE
    refine lv_iload_n X.1 X.2.1 dX3_readsTerm_12 rfl (lv_at hl 2 rfl) ?_
    refine lv_sipush (v := 240) X.1 X.2.1 dX3_readsTerm_13 (by decide) ?_
    refine lv_icmp_ge (tgt := 73) X.1 X.2.1 dX3_readsTerm_16 (by decide) (fun c_2 => ?_) (fun c_2 => ?_)
    · skip
      refine lv_aload_n X.1 X.2.1 dX3_readsTerm_73 rfl (lv_at hl 0 rfl) ?_
      refine g3_0 X I (k := 7) (by decide) rfl lf_X3_9 dX3_readsTerm_74 ?_
      refine r_ei I (r_runV X I pk_X7_fails (c7_fails l G _ _) lm_X3_46 (by decide) (cl_7 rfl) rfl rfl rfl hl.1 rfl (Nat.le_of_ble_eq_true rfl) dX3_readsTerm_77 (hr_le (by omega) (by decide)) ⟨Nat.le_refl 0, Nat.le_refl 0⟩) (fun H locs I => ?_)
      have h9 := hE.trans ((if_pos c_2).trans rfl)
      exact r_zret X I (b2i_nar _) (e_i (congrArg b2i (congrArg Prod.fst h9)).symm (congrArg Prod.snd h9).symm rfl) dX3_readsTerm_80
    · skip
      refine lv_aload_n X.1 X.2.1 dX3_readsTerm_19 rfl (lv_at hl 0 rfl) ?_
      refine g3_0 X I (k := 7) (by decide) rfl lf_X3_9 dX3_readsTerm_20 ?_
      refine r_ei I (r_runV X I pk_X7_peek (c7_peek l G _ _) lm_X3_38 (by decide) (cl_7 rfl) rfl rfl rfl hl.1 rfl (Nat.le_of_ble_eq_true rfl) dX3_readsTerm_23 (hr_le (by omega) (by decide)) ⟨Nat.le_refl 0, Nat.le_refl 0⟩) (fun H locs I => ?_)
      refine lv_istore_n (lv' := [(3, .int _), (0, .ref _), (1, .int _), (2, .int _)]) X.1 X.2.1 dX3_readsTerm_26 rfl hl (by decide) rfl (fun ls hl => ?_)
      refine lv_iload_n X.1 X.2.1 dX3_readsTerm_27 rfl (lv_at hl 0 rfl) ?_
      refine lv_bipush (v := 42) X.1 X.2.1 dX3_readsTerm_28 (by decide) ?_
      refine lv_icmp_eq (tgt := 41) X.1 X.2.1 dX3_readsTerm_30 (by decide) (fun c_3 => ?_) (fun c_3 => ?_)
      · skip
        refine lv_aload_n X.1 X.2.1 dX3_readsTerm_41 rfl (lv_at hl 1 rfl) ?_
        refine g3_0 X I (k := 7) (by decide) rfl lf_X3_9 dX3_readsTerm_42 ?_
        refine r_ev I (r_runV X I pk_X7_pass (c7_pass l G _ _) lm_X3_68 (by decide) (cl_7 rfl) rfl rfl rfl hl.1 rfl (Nat.le_of_ble_eq_true rfl) dX3_readsTerm_45 (hr_le (by omega) (by decide)) ⟨Nat.le_refl 0, Nat.le_refl 0⟩) (fun H locs I => ?_)
        refine lv_aload_n X.1 X.2.1 dX3_readsTerm_48 rfl (lv_at hl 1 rfl) ?_
        refine lv_iload_n X.1 X.2.1 dX3_readsTerm_49 rfl (lv_at hl 2 rfl) ?_
        refine r_ei I (r_runV X I pk_X3_readsAtom (hA _ _ _ (hx)) lm_X3_77 (by decide) (cl_3 rfl) rfl rfl rfl hl.1 rfl (Nat.le_of_ble_eq_true rfl) dX3_readsTerm_50 (hr_le (by omega) (by decide)) ⟨Nat.le_refl 0, Nat.le_refl 0⟩) (fun H locs I => ?_)
        refine lv_if_ne (tgt := 58) X.1 X.2.1 dX3_readsTerm_53 (by decide) (fun c_4 => ?_) (fun c_4 => ?_)
        · skip
          refine lv_aload_n X.1 X.2.1 dX3_readsTerm_58 rfl (lv_at hl 1 rfl) ?_
          refine g3_1 X I (k := 7) (by decide) rfl lf_X3_18 dX3_readsTerm_59 ?_
          refine lv_iload_n X.1 X.2.1 dX3_readsTerm_62 rfl (lv_at hl 0 rfl) ?_
          refine lv_ineg X.1 X.2.1 dX3_readsTerm_63 ?_
          refine r_ev I (r_runV X I pk_X1_add (c1_add l G (k := 8) ⟨by decide, rfl, rfl⟩ _ _ _) lm_X3_34 (by decide) (cl_1 rfl) rfl rfl rfl hl.1 rfl (Nat.le_of_ble_eq_true rfl) dX3_readsTerm_64 (hr_le (by omega) (by decide)) ⟨Nat.le_refl 0, Nat.le_refl 0⟩) (fun H locs I => ?_)
          refine lv_iinc (v := _ + 1) (lv' := [(2, .int _), (3, .int _), (0, .ref _), (1, .int _)]) X.1 X.2.1 dX3_readsTerm_67 hl (k := 3) rfl rfl (by decide) rfl (fun ls hl => ?_)
          refine lv_goto (tgt := 12) X.1 X.2.1 dX3_readsTerm_70 (by decide) ?_
          exact ih _ _ _ _ _ I (lv_sub hl [2, 3, 0] rfl) (Nat.lt_of_lt_of_le (up_dec c_2) (Nat.le_of_lt_succ hm)) (hE.trans ((if_neg c_2).trans ((if_pos c_3).trans ((if_pos (b2i_y c_4)).trans rfl))))
        · skip
          refine lv_iconst (v := 0) X.1 X.2.1 dX3_readsTerm_56 (by decide) ?_
          have h9 := hE.trans ((if_neg c_2).trans ((if_pos c_3).trans ((if_neg (b2i_n c_4)).trans rfl)))
          exact r_zret X I rfl (e_i (congrArg b2i (congrArg Prod.fst h9)).symm (congrArg Prod.snd h9).symm rfl) dX3_readsTerm_57
      · skip
        refine lv_iload_n X.1 X.2.1 dX3_readsTerm_33 rfl (lv_at hl 0 rfl) ?_
        refine lv_bipush (v := 47) X.1 X.2.1 dX3_readsTerm_34 (by decide) ?_
        refine lv_icmp_eq (tgt := 41) X.1 X.2.1 dX3_readsTerm_36 (by decide) (fun c_5 => ?_) (fun c_5 => ?_)
        · skip
          refine lv_aload_n X.1 X.2.1 dX3_readsTerm_41 rfl (lv_at hl 1 rfl) ?_
          refine g3_0 X I (k := 7) (by decide) rfl lf_X3_9 dX3_readsTerm_42 ?_
          refine r_ev I (r_runV X I pk_X7_pass (c7_pass l G _ _) lm_X3_68 (by decide) (cl_7 rfl) rfl rfl rfl hl.1 rfl (Nat.le_of_ble_eq_true rfl) dX3_readsTerm_45 (hr_le (by omega) (by decide)) ⟨Nat.le_refl 0, Nat.le_refl 0⟩) (fun H locs I => ?_)
          refine lv_aload_n X.1 X.2.1 dX3_readsTerm_48 rfl (lv_at hl 1 rfl) ?_
          refine lv_iload_n X.1 X.2.1 dX3_readsTerm_49 rfl (lv_at hl 2 rfl) ?_
          refine r_ei I (r_runV X I pk_X3_readsAtom (hA _ _ _ (hx)) lm_X3_77 (by decide) (cl_3 rfl) rfl rfl rfl hl.1 rfl (Nat.le_of_ble_eq_true rfl) dX3_readsTerm_50 (hr_le (by omega) (by decide)) ⟨Nat.le_refl 0, Nat.le_refl 0⟩) (fun H locs I => ?_)
          refine lv_if_ne (tgt := 58) X.1 X.2.1 dX3_readsTerm_53 (by decide) (fun c_6 => ?_) (fun c_6 => ?_)
          · skip
            refine lv_aload_n X.1 X.2.1 dX3_readsTerm_58 rfl (lv_at hl 1 rfl) ?_
            refine g3_1 X I (k := 7) (by decide) rfl lf_X3_18 dX3_readsTerm_59 ?_
            refine lv_iload_n X.1 X.2.1 dX3_readsTerm_62 rfl (lv_at hl 0 rfl) ?_
            refine lv_ineg X.1 X.2.1 dX3_readsTerm_63 ?_
            refine r_ev I (r_runV X I pk_X1_add (c1_add l G (k := 8) ⟨by decide, rfl, rfl⟩ _ _ _) lm_X3_34 (by decide) (cl_1 rfl) rfl rfl rfl hl.1 rfl (Nat.le_of_ble_eq_true rfl) dX3_readsTerm_64 (hr_le (by omega) (by decide)) ⟨Nat.le_refl 0, Nat.le_refl 0⟩) (fun H locs I => ?_)
            refine lv_iinc (v := _ + 1) (lv' := [(2, .int _), (3, .int _), (0, .ref _), (1, .int _)]) X.1 X.2.1 dX3_readsTerm_67 hl (k := 3) rfl rfl (by decide) rfl (fun ls hl => ?_)
            refine lv_goto (tgt := 12) X.1 X.2.1 dX3_readsTerm_70 (by decide) ?_
            exact ih _ _ _ _ _ I (lv_sub hl [2, 3, 0] rfl) (Nat.lt_of_lt_of_le (up_dec c_2) (Nat.le_of_lt_succ hm)) (hE.trans ((if_neg c_2).trans ((if_neg c_3).trans ((if_pos c_5).trans ((if_pos (b2i_y c_6)).trans rfl)))))
          · skip
            refine lv_iconst (v := 0) X.1 X.2.1 dX3_readsTerm_56 (by decide) ?_
            have h9 := hE.trans ((if_neg c_2).trans ((if_neg c_3).trans ((if_pos c_5).trans ((if_neg (b2i_n c_6)).trans rfl))))
            exact r_zret X I rfl (e_i (congrArg b2i (congrArg Prod.fst h9)).symm (congrArg Prod.snd h9).symm rfl) dX3_readsTerm_57
        · skip
          refine lv_iconst (v := 1) X.1 X.2.1 dX3_readsTerm_39 (by decide) ?_
          have h9 := hE.trans ((if_neg c_2).trans ((if_neg c_3).trans ((if_neg c_5).trans rfl)))
          exact r_zret X I rfl (e_i (congrArg b2i (congrArg Prod.fst h9)).symm (congrArg Prod.snd h9).symm rfl) dX3_readsTerm_40
set_option maxHeartbeats 4000000 in
set_option maxRecDepth 100000 in
theorem c3_readsTerm (l : Launch) (G : GT) {A : SI → Int32 → Bool × SI} {D : Nat} (hA : ∀ (σ : SI) (τ : SL) (x1 : Int32), (Int32.toInt 6 - Int32.toInt x1).toNat < D + 1 → Mc l yX3_readsAtom cX3_readsAtom 4 (some .boolean) (10 + 3 * D + 1) G [.ref (G.2.1 7), .int x1] σ τ (Qi G (Ei (b2i (A σ x1).1) (A σ x1).2 τ))) (σ : SI) (τ : SL) (x1 : Int32) (hx : (Int32.toInt 6 - Int32.toInt x1).toNat < D + 1) : Mc l yX3_readsTerm cX3_readsTerm 4 (some .boolean) (10 + 3 * D + 2) G [.ref (G.2.1 7), .int x1] σ τ (Qi G (Ei (b2i (f3_readsTerm A σ x1).1) (f3_readsTerm A σ x1).2 τ)) := by
  refine m_start (by decide +kernel) (Nat.le_of_ble_eq_true rfl) rfl (fun p e s m args below meth c ls X I hl => ?_)
  have hl : lv_has ls 4 [(0, .ref (G.2.1 7)), (1, .int x1)] := hl
  obtain ⟨E, hE⟩ : ∃ E, E = (f3_readsTerm A σ x1) := ⟨_, rfl⟩
  rw [← hE]
  refine lv_aload_n X.1 X.2.1 dX3_readsTerm_0 rfl (lv_at hl 0 rfl) ?_
  refine lv_iload_n X.1 X.2.1 dX3_readsTerm_1 rfl (lv_at hl 1 rfl) ?_
  refine r_ei I (r_runV X I pk_X3_readsAtom (hA _ _ _ (hx)) lm_X3_77 (by decide) (cl_3 rfl) rfl rfl rfl hl.1 rfl (Nat.le_of_ble_eq_true rfl) dX3_readsTerm_2 (hr_le (by omega) (by decide)) ⟨Nat.le_refl 0, Nat.le_refl 0⟩) (fun H locs I => ?_)
  refine lv_if_ne (tgt := 10) X.1 X.2.1 dX3_readsTerm_5 (by decide) (fun c_1 => ?_) (fun c_1 => ?_)
  · skip
    refine lv_iconst (v := 0) X.1 X.2.1 dX3_readsTerm_10 (by decide) ?_
    refine lv_istore_n (lv' := [(2, .int _), (0, .ref _), (1, .int _)]) X.1 X.2.1 dX3_readsTerm_11 rfl hl (by decide) rfl (fun ls hl => ?_)
    exact c3_readsTerm_c12 X hA _ _ hx _ _ _ _ _ _ I (lv_sub hl [1, 2, 0] rfl) (Nat.lt_succ_self _) (hE.trans ((if_pos (b2i_y c_1)).trans rfl))
  · skip
    refine lv_iconst (v := 0) X.1 X.2.1 dX3_readsTerm_8 (by decide) ?_
    have h9 := hE.trans ((if_neg (b2i_n c_1)).trans rfl)
    exact r_zret X I rfl (e_i (congrArg b2i (congrArg Prod.fst h9)).symm (congrArg Prod.snd h9).symm rfl) dX3_readsTerm_9
def f3_readsSum_c12 (A : SI → Int32 → Bool × SI) (x1 : Int32) : Nat → Int32 → SI → (Bool × SI)
  | 0, _, σ => (false, σ)
  | fu + 1, v2, σ => if (240 : Int32) ≤ v2 then (let r1 := (f7_fails σ); (r1.1, r1.2)) else (let r2 := (f7_peek σ); if r2.1 = (43 : Int32) then (let s3 := (f7_pass r2.2); let r4 := (A s3 x1); if r4.1 = true then (let s5 := (f1_add 8 r4.2 (-r2.1)); (f3_readsSum_c12 A x1 fu (v2 + 1) s5)) else (false, r4.2)) else (if r2.1 = (45 : Int32) then (let s6 := (f7_pass r2.2); let r7 := (A s6 x1); if r7.1 = true then (let s8 := (f1_add 8 r7.2 (-r2.1)); (f3_readsSum_c12 A x1 fu (v2 + 1) s8)) else (false, r7.2)) else (true, r2.2)))
def f3_readsSum (A : SI → Int32 → Bool × SI) (σ : SI) (x1 : Int32) : Bool × SI := let r0 := (A σ x1); if r0.1 = true then (f3_readsSum_c12 A x1 ((Int32.toInt (240 : Int32) - Int32.toInt (0 : Int32)).toNat + 1) (0 : Int32) r0.2) else (false, r0.2)
theorem w_f3_readsSum_c12 {A : SI → Int32 → Bool × SI} (hA : ∀ (σ : SI) (x1 : Int32) (b : Nat), b ≠ 1 → b ≠ 8 → b ≠ 9 → (A σ x1).2 b = σ b) (x1 : Int32) (a : Nat) (h0 : a ≠ 1) (h1 : a ≠ 8) (h2 : a ≠ 9) : ∀ (fu : Nat) (v2 : Int32) (σ : SI), (f3_readsSum_c12 A x1 fu v2 σ).2 a = σ a := by
  intro fu
  induction fu with
  | zero => intros; rfl
  | succ fu ih =>
    intro v2 σ
    unfold f3_readsSum_c12
    (repeat' split) <;> (first | rfl | (simp only [sp_n, su_n, ne_eq, not_false_eq_true, h0, h1, h2, w_f1_add, w_f7_fails, w_f7_pass, w_f7_peek, hA, ih]; done) | (simp [sp_n, su_n, ne_eq, not_false_eq_true, h0, h1, h2, w_f1_add, w_f7_fails, w_f7_pass, w_f7_peek, hA, ih]; done))
theorem w_f3_readsSum {A : SI → Int32 → Bool × SI} (hA : ∀ (σ : SI) (x1 : Int32) (b : Nat), b ≠ 1 → b ≠ 8 → b ≠ 9 → (A σ x1).2 b = σ b) (σ : SI) (x1 : Int32) (a : Nat) (h0 : a ≠ 1) (h1 : a ≠ 8) (h2 : a ≠ 9) : (f3_readsSum A σ x1).2 a = σ a := by
  unfold f3_readsSum
  (repeat' split) <;> (first | rfl | (simp only [sp_n, su_n, ne_eq, not_false_eq_true, h0, h1, h2, w_f1_add, w_f7_fails, w_f7_pass, w_f7_peek, hA, w_f3_readsSum_c12]; done) | (simp [sp_n, su_n, ne_eq, not_false_eq_true, h0, h1, h2, w_f1_add, w_f7_fails, w_f7_pass, w_f7_peek, hA, w_f3_readsSum_c12]; done))
set_option maxHeartbeats 4000000 in
set_option maxRecDepth 100000 in
theorem c3_readsSum_c12 {l : Launch} {p : Program} {e : Env} {s : State} {m : MethodId} {args : Array Value} {below : List Frame} {meth : Method} {c : Code} {G : GT} (X : CX p s m args meth c cX3_readsSum RX3 4 (some .boolean) G) {A : SI → Int32 → Bool × SI} {D : Nat} (hA : ∀ (σ : SI) (τ : SL) (x1 : Int32), (Int32.toInt 6 - Int32.toInt x1).toNat < D + 1 → Mc l yX3_readsTerm cX3_readsTerm 4 (some .boolean) (10 + 3 * D + 2) G [.ref (G.2.1 7), .int x1] σ τ (Qi G (Ei (b2i (A σ x1).1) (A σ x1).2 τ))) {E : Bool × SI} (τ : SL) (x1 : Int32) (hx : (Int32.toInt 6 - Int32.toInt x1).toNat < D + 1) : ∀ (fu : Nat) (v2 : Int32) (σ : SI) (H : Heap) (locs : List Loc) (ls : Array Slot), IX G s H locs σ τ → lv_has ls 4 [(0, .ref (G.2.1 7)), (1, .int x1), (2, .int v2)] → (Int32.toInt (240 : Int32) - Int32.toInt v2).toNat < fu → E = (f3_readsSum_c12 A x1 fu v2 σ) → W p l e (rmN (10 + 3 * D + 3)) s m args below meth c H locs 0 0 (MQ below ((Qi G (Ei (b2i E.1) E.2 τ)) s.heap.size) args s 0 0 (AW G s.heap.size)) (F0 m 12 ls []) := by
  intro fu
  induction fu with
  | zero =>
    intro v2 σ H locs ls I hl  hm hE
    exact absurd hm (Nat.not_lt_zero _)
  | succ fu ih =>
    intro v2 σ H locs ls I hl  hm hE
    refine lv_iload_n X.1 X.2.1 dX3_readsSum_12 rfl (lv_at hl 2 rfl) ?_
    refine lv_sipush (v := 240) X.1 X.2.1 dX3_readsSum_13 (by decide) ?_
    refine lv_icmp_ge (tgt := 73) X.1 X.2.1 dX3_readsSum_16 (by decide) (fun c_2 => ?_) (fun c_2 => ?_)
    · skip
      refine lv_aload_n X.1 X.2.1 dX3_readsSum_73 rfl (lv_at hl 0 rfl) ?_
      refine g3_0 X I (k := 7) (by decide) rfl lf_X3_9 dX3_readsSum_74 ?_
      refine r_ei I (r_runV X I pk_X7_fails (c7_fails l G _ _) lm_X3_46 (by decide) (cl_7 rfl) rfl rfl rfl hl.1 rfl (Nat.le_of_ble_eq_true rfl) dX3_readsSum_77 (hr_le (by omega) (by decide)) ⟨Nat.le_refl 0, Nat.le_refl 0⟩) (fun H locs I => ?_)
      have h9 := hE.trans ((if_pos c_2).trans rfl)
      exact r_zret X I (b2i_nar _) (e_i (congrArg b2i (congrArg Prod.fst h9)).symm (congrArg Prod.snd h9).symm rfl) dX3_readsSum_80
    · skip
      refine lv_aload_n X.1 X.2.1 dX3_readsSum_19 rfl (lv_at hl 0 rfl) ?_
      refine g3_0 X I (k := 7) (by decide) rfl lf_X3_9 dX3_readsSum_20 ?_
      refine r_ei I (r_runV X I pk_X7_peek (c7_peek l G _ _) lm_X3_38 (by decide) (cl_7 rfl) rfl rfl rfl hl.1 rfl (Nat.le_of_ble_eq_true rfl) dX3_readsSum_23 (hr_le (by omega) (by decide)) ⟨Nat.le_refl 0, Nat.le_refl 0⟩) (fun H locs I => ?_)
      refine lv_istore_n (lv' := [(3, .int _), (0, .ref _), (1, .int _), (2, .int _)]) X.1 X.2.1 dX3_readsSum_26 rfl hl (by decide) rfl (fun ls hl => ?_)
      refine lv_iload_n X.1 X.2.1 dX3_readsSum_27 rfl (lv_at hl 0 rfl) ?_
      refine lv_bipush (v := 43) X.1 X.2.1 dX3_readsSum_28 (by decide) ?_
      refine lv_icmp_eq (tgt := 41) X.1 X.2.1 dX3_readsSum_30 (by decide) (fun c_3 => ?_) (fun c_3 => ?_)
      · skip
        refine lv_aload_n X.1 X.2.1 dX3_readsSum_41 rfl (lv_at hl 1 rfl) ?_
        refine g3_0 X I (k := 7) (by decide) rfl lf_X3_9 dX3_readsSum_42 ?_
        refine r_ev I (r_runV X I pk_X7_pass (c7_pass l G _ _) lm_X3_68 (by decide) (cl_7 rfl) rfl rfl rfl hl.1 rfl (Nat.le_of_ble_eq_true rfl) dX3_readsSum_45 (hr_le (by omega) (by decide)) ⟨Nat.le_refl 0, Nat.le_refl 0⟩) (fun H locs I => ?_)
        refine lv_aload_n X.1 X.2.1 dX3_readsSum_48 rfl (lv_at hl 1 rfl) ?_
        refine lv_iload_n X.1 X.2.1 dX3_readsSum_49 rfl (lv_at hl 2 rfl) ?_
        refine r_ei I (r_runV X I pk_X3_readsTerm (hA _ _ _ (hx)) lm_X3_74 (by decide) (cl_3 rfl) rfl rfl rfl hl.1 rfl (Nat.le_of_ble_eq_true rfl) dX3_readsSum_50 (hr_le (by omega) (by decide)) ⟨Nat.le_refl 0, Nat.le_refl 0⟩) (fun H locs I => ?_)
        refine lv_if_ne (tgt := 58) X.1 X.2.1 dX3_readsSum_53 (by decide) (fun c_4 => ?_) (fun c_4 => ?_)
        · skip
          refine lv_aload_n X.1 X.2.1 dX3_readsSum_58 rfl (lv_at hl 1 rfl) ?_
          refine g3_1 X I (k := 7) (by decide) rfl lf_X3_18 dX3_readsSum_59 ?_
          refine lv_iload_n X.1 X.2.1 dX3_readsSum_62 rfl (lv_at hl 0 rfl) ?_
          refine lv_ineg X.1 X.2.1 dX3_readsSum_63 ?_
          refine r_ev I (r_runV X I pk_X1_add (c1_add l G (k := 8) ⟨by decide, rfl, rfl⟩ _ _ _) lm_X3_34 (by decide) (cl_1 rfl) rfl rfl rfl hl.1 rfl (Nat.le_of_ble_eq_true rfl) dX3_readsSum_64 (hr_le (by omega) (by decide)) ⟨Nat.le_refl 0, Nat.le_refl 0⟩) (fun H locs I => ?_)
          refine lv_iinc (v := _ + 1) (lv' := [(2, .int _), (3, .int _), (0, .ref _), (1, .int _)]) X.1 X.2.1 dX3_readsSum_67 hl (k := 3) rfl rfl (by decide) rfl (fun ls hl => ?_)
          refine lv_goto (tgt := 12) X.1 X.2.1 dX3_readsSum_70 (by decide) ?_
          exact ih _ _ _ _ _ I (lv_sub hl [2, 3, 0] rfl) (Nat.lt_of_lt_of_le (up_dec c_2) (Nat.le_of_lt_succ hm)) (hE.trans ((if_neg c_2).trans ((if_pos c_3).trans ((if_pos (b2i_y c_4)).trans rfl))))
        · skip
          refine lv_iconst (v := 0) X.1 X.2.1 dX3_readsSum_56 (by decide) ?_
          have h9 := hE.trans ((if_neg c_2).trans ((if_pos c_3).trans ((if_neg (b2i_n c_4)).trans rfl)))
          exact r_zret X I rfl (e_i (congrArg b2i (congrArg Prod.fst h9)).symm (congrArg Prod.snd h9).symm rfl) dX3_readsSum_57
      · skip
        refine lv_iload_n X.1 X.2.1 dX3_readsSum_33 rfl (lv_at hl 0 rfl) ?_
        refine lv_bipush (v := 45) X.1 X.2.1 dX3_readsSum_34 (by decide) ?_
        refine lv_icmp_eq (tgt := 41) X.1 X.2.1 dX3_readsSum_36 (by decide) (fun c_5 => ?_) (fun c_5 => ?_)
        · skip
          refine lv_aload_n X.1 X.2.1 dX3_readsSum_41 rfl (lv_at hl 1 rfl) ?_
          refine g3_0 X I (k := 7) (by decide) rfl lf_X3_9 dX3_readsSum_42 ?_
          refine r_ev I (r_runV X I pk_X7_pass (c7_pass l G _ _) lm_X3_68 (by decide) (cl_7 rfl) rfl rfl rfl hl.1 rfl (Nat.le_of_ble_eq_true rfl) dX3_readsSum_45 (hr_le (by omega) (by decide)) ⟨Nat.le_refl 0, Nat.le_refl 0⟩) (fun H locs I => ?_)
          refine lv_aload_n X.1 X.2.1 dX3_readsSum_48 rfl (lv_at hl 1 rfl) ?_
          refine lv_iload_n X.1 X.2.1 dX3_readsSum_49 rfl (lv_at hl 2 rfl) ?_
          refine r_ei I (r_runV X I pk_X3_readsTerm (hA _ _ _ (hx)) lm_X3_74 (by decide) (cl_3 rfl) rfl rfl rfl hl.1 rfl (Nat.le_of_ble_eq_true rfl) dX3_readsSum_50 (hr_le (by omega) (by decide)) ⟨Nat.le_refl 0, Nat.le_refl 0⟩) (fun H locs I => ?_)
          refine lv_if_ne (tgt := 58) X.1 X.2.1 dX3_readsSum_53 (by decide) (fun c_6 => ?_) (fun c_6 => ?_)
          · skip
            refine lv_aload_n X.1 X.2.1 dX3_readsSum_58 rfl (lv_at hl 1 rfl) ?_
            refine g3_1 X I (k := 7) (by decide) rfl lf_X3_18 dX3_readsSum_59 ?_
            refine lv_iload_n X.1 X.2.1 dX3_readsSum_62 rfl (lv_at hl 0 rfl) ?_
            refine lv_ineg X.1 X.2.1 dX3_readsSum_63 ?_
            refine r_ev I (r_runV X I pk_X1_add (c1_add l G (k := 8) ⟨by decide, rfl, rfl⟩ _ _ _) lm_X3_34 (by decide) (cl_1 rfl) rfl rfl rfl hl.1 rfl (Nat.le_of_ble_eq_true rfl) dX3_readsSum_64 (hr_le (by omega) (by decide)) ⟨Nat.le_refl 0, Nat.le_refl 0⟩) (fun H locs I => ?_)
            refine lv_iinc (v := _ + 1) (lv' := [(2, .int _), (3, .int _), (0, .ref _), (1, .int _)]) X.1 X.2.1 dX3_readsSum_67 hl (k := 3) rfl rfl (by decide) rfl (fun ls hl => ?_)
            refine lv_goto (tgt := 12) X.1 X.2.1 dX3_readsSum_70 (by decide) ?_
            exact ih _ _ _ _ _ I (lv_sub hl [2, 3, 0] rfl) (Nat.lt_of_lt_of_le (up_dec c_2) (Nat.le_of_lt_succ hm)) (hE.trans ((if_neg c_2).trans ((if_neg c_3).trans ((if_pos c_5).trans ((if_pos (b2i_y c_6)).trans rfl)))))
          · skip
            refine lv_iconst (v := 0) X.1 X.2.1 dX3_readsSum_56 (by decide) ?_
            have h9 := hE.trans ((if_neg c_2).trans ((if_neg c_3).trans ((if_pos c_5).trans ((if_neg (b2i_n c_6)).trans rfl))))
            exact r_zret X I rfl (e_i (congrArg b2i (congrArg Prod.fst h9)).symm (congrArg Prod.snd h9).symm rfl) dX3_readsSum_57
        · skip
          refine lv_iconst (v := 1) X.1 X.2.1 dX3_readsSum_39 (by decide) ?_
          have h9 := hE.trans ((if_neg c_2).trans ((if_neg c_3).trans ((if_neg c_5).trans rfl)))
          exact r_zret X I rfl (e_i (congrArg b2i (congrArg Prod.fst h9)).symm (congrArg Prod.snd h9).symm rfl) dX3_readsSum_40
set_option maxHeartbeats 4000000 in
set_option maxRecDepth 100000 in
theorem c3_readsSum (l : Launch) (G : GT) {A : SI → Int32 → Bool × SI} {D : Nat} (hA : ∀ (σ : SI) (τ : SL) (x1 : Int32), (Int32.toInt 6 - Int32.toInt x1).toNat < D + 1 → Mc l yX3_readsTerm cX3_readsTerm 4 (some .boolean) (10 + 3 * D + 2) G [.ref (G.2.1 7), .int x1] σ τ (Qi G (Ei (b2i (A σ x1).1) (A σ x1).2 τ))) (σ : SI) (τ : SL) (x1 : Int32) (hx : (Int32.toInt 6 - Int32.toInt x1).toNat < D + 1) : Mc l yX3_readsSum cX3_readsSum 4 (some .boolean) (10 + 3 * D + 3) G [.ref (G.2.1 7), .int x1] σ τ (Qi G (Ei (b2i (f3_readsSum A σ x1).1) (f3_readsSum A σ x1).2 τ)) := by
  refine m_start (by decide +kernel) (Nat.le_of_ble_eq_true rfl) rfl (fun p e s m args below meth c ls X I hl => ?_)
  have hl : lv_has ls 4 [(0, .ref (G.2.1 7)), (1, .int x1)] := hl
  obtain ⟨E, hE⟩ : ∃ E, E = (f3_readsSum A σ x1) := ⟨_, rfl⟩
  rw [← hE]
  refine lv_aload_n X.1 X.2.1 dX3_readsSum_0 rfl (lv_at hl 0 rfl) ?_
  refine lv_iload_n X.1 X.2.1 dX3_readsSum_1 rfl (lv_at hl 1 rfl) ?_
  refine r_ei I (r_runV X I pk_X3_readsTerm (hA _ _ _ (hx)) lm_X3_74 (by decide) (cl_3 rfl) rfl rfl rfl hl.1 rfl (Nat.le_of_ble_eq_true rfl) dX3_readsSum_2 (hr_le (by omega) (by decide)) ⟨Nat.le_refl 0, Nat.le_refl 0⟩) (fun H locs I => ?_)
  refine lv_if_ne (tgt := 10) X.1 X.2.1 dX3_readsSum_5 (by decide) (fun c_1 => ?_) (fun c_1 => ?_)
  · skip
    refine lv_iconst (v := 0) X.1 X.2.1 dX3_readsSum_10 (by decide) ?_
    refine lv_istore_n (lv' := [(2, .int _), (0, .ref _), (1, .int _)]) X.1 X.2.1 dX3_readsSum_11 rfl hl (by decide) rfl (fun ls hl => ?_)
    exact c3_readsSum_c12 X hA _ _ hx _ _ _ _ _ _ I (lv_sub hl [1, 2, 0] rfl) (Nat.lt_succ_self _) (hE.trans ((if_pos (b2i_y c_1)).trans rfl))
  · skip
    refine lv_iconst (v := 0) X.1 X.2.1 dX3_readsSum_8 (by decide) ?_
    have h9 := hE.trans ((if_neg (b2i_n c_1)).trans rfl)
    exact r_zret X I rfl (e_i (congrArg b2i (congrArg Prod.fst h9)).symm (congrArg Prod.snd h9).symm rfl) dX3_readsSum_9
def fSumD : Nat → SI → Int32 → Bool × SI
  | 0 => fun σ _ => (false, σ)
  | D + 1 => fun σ x => f3_readsSum (f3_readsTerm (f3_readsAtom (fSumD D))) σ x
theorem cSumD (l : Launch) (G : GT) : ∀ (D : Nat) (σ : SI) (τ : SL) (x1 : Int32), (Int32.toInt 6 - Int32.toInt x1).toNat < D → Mc l yX3_readsSum cX3_readsSum 4 (some .boolean) (10 + 3 * D) G [.ref (G.2.1 7), .int x1] σ τ (Qi G (Ei (b2i (fSumD D σ x1).1) (fSumD D σ x1).2 τ))
  | 0, _, _, _, h => absurd h (Nat.not_lt_zero _)
  | D + 1, σ, τ, x, h => c3_readsSum l G (fun σ τ x h => c3_readsTerm l G (fun σ τ x h => c3_readsAtom l G (fun σ τ x h => cSumD l G D σ τ x h) σ τ x h) σ τ x h) σ τ x h
theorem six_lt {x : Int32} (h : ¬ x < 0) : (Int32.toInt 6 - Int32.toInt x).toNat < 7 := by
  rw [lt_ti] at h
  have h0 : (0 : Int32).toInt = 0 := rfl
  have h6 : (6 : Int32).toInt = 6 := rfl
  omega
def f3_sum (σ : SI) (x : Int32) : Bool × SI := fSumD 7 σ x
theorem c3_sum (l : Launch) (G : GT) (σ : SI) (τ : SL) (x1 : Int32) (hx0 : ¬ x1 < 0) : Mc l yX3_readsSum cX3_readsSum 4 (some .boolean) 31 G [.ref (G.2.1 7), .int x1] σ τ (Qi G (Ei (b2i (f3_sum σ x1).1) (f3_sum σ x1).2 τ)) := cSumD l G 7 σ τ x1 (six_lt hx0)
theorem w_fSumD : ∀ (D : Nat) (σ : SI) (x1 : Int32) (b : Nat), b ≠ 1 → b ≠ 8 → b ≠ 9 → (fSumD D σ x1).2 b = σ b
  | 0, _, _, _, _, _, _ => rfl
  | D + 1, σ, x, b, h0, h1, h2 => w_f3_readsSum (fun σ x b h0 h1 h2 => w_f3_readsTerm (fun σ x b h0 h1 h2 => w_f3_readsAtom (fun σ x b h0 h1 h2 => w_fSumD D σ x b h0 h1 h2) σ x b h0 h1 h2) σ x b h0 h1 h2) σ x b h0 h1 h2
theorem w_f3_sum (σ : SI) (x1 : Int32) (b : Nat) (h0 : b ≠ 1) (h1 : b ≠ 8) (h2 : b ≠ 9) : (f3_sum σ x1).2 b = σ b := w_fSumD 7 σ x1 b h0 h1 h2
def f3_readsRelation (σ : SI) (x1 : Int32) : Bool × SI := let r0 := (f7_peek σ); if (f3_isRelation r0.1) = true then (let s1 := (f7_pass r0.2); let r2 := (f3_sum s1 x1); if r2.1 = true then (let s3 := (f1_add 8 r2.2 (-r0.1)); (true, s3)) else (false, r2.2)) else (let r4 := (f7_fails r0.2); (r4.1, r4.2))
theorem w_f3_readsRelation (σ : SI) (x1 : Int32) (a : Nat) (h0 : a ≠ 1) (h1 : a ≠ 8) (h2 : a ≠ 9) : (f3_readsRelation σ x1).2 a = σ a := by
  unfold f3_readsRelation
  (repeat' split) <;> (first | rfl | (simp only [sp_n, su_n, ne_eq, not_false_eq_true, h0, h1, h2, w_f1_add, w_f3_sum, w_f7_fails, w_f7_pass, w_f7_peek]; done) | (simp [sp_n, su_n, ne_eq, not_false_eq_true, h0, h1, h2, w_f1_add, w_f3_sum, w_f7_fails, w_f7_pass, w_f7_peek]; done))
set_option maxHeartbeats 4000000 in
set_option maxRecDepth 100000 in
theorem c3_readsRelation (l : Launch) (G : GT) (σ : SI) (τ : SL) (x1 : Int32) (hx0 : ¬ x1 < 0) : Mc l yX3_readsRelation cX3_readsRelation 3 (some .boolean) 32 G [.ref (G.2.1 7), .int x1] σ τ (Qi G (Ei (b2i (f3_readsRelation σ x1).1) (f3_readsRelation σ x1).2 τ)) := by
  refine m_start (by decide +kernel) (Nat.le_of_ble_eq_true rfl) rfl (fun p e s m args below meth c ls X I hl => ?_)
  have hl : lv_has ls 3 [(0, .ref (G.2.1 7)), (1, .int x1)] := hl
  obtain ⟨E, hE⟩ : ∃ E, E = (f3_readsRelation σ x1) := ⟨_, rfl⟩
  rw [← hE]
  refine lv_aload_n X.1 X.2.1 dX3_readsRelation_0 rfl (lv_at hl 0 rfl) ?_
  refine g3_0 X I (k := 7) (by decide) rfl lf_X3_9 dX3_readsRelation_1 ?_
  refine r_ei I (r_runV X I pk_X7_peek (c7_peek l G _ _) lm_X3_38 (by decide) (cl_7 rfl) rfl rfl rfl hl.1 rfl (Nat.le_of_ble_eq_true rfl) dX3_readsRelation_4 ⟨Nat.le_of_ble_eq_true rfl, Nat.le_of_ble_eq_true rfl⟩ ⟨Nat.le_refl 0, Nat.le_refl 0⟩) (fun H locs I => ?_)
  refine lv_istore_n (lv' := [(2, .int _), (0, .ref _), (1, .int _)]) X.1 X.2.1 dX3_readsRelation_7 rfl hl (by decide) rfl (fun ls hl => ?_)
  refine lv_iload_n X.1 X.2.1 dX3_readsRelation_8 rfl (lv_at hl 0 rfl) ?_
  refine r_ei I (r_runS X I pk_X3_isRelation (c3_isRelation l G _ _ _) lm_X3_59 rfl hl.1 rfl (Nat.le_of_ble_eq_true rfl) dX3_readsRelation_9 ⟨Nat.le_of_ble_eq_true rfl, Nat.le_of_ble_eq_true rfl⟩ ⟨Nat.le_refl 0, Nat.le_refl 0⟩) (fun H locs I => ?_)
  refine lv_if_ne (tgt := 23) X.1 X.2.1 dX3_readsRelation_12 (by decide) (fun c_1 => ?_) (fun c_1 => ?_)
  · skip
    refine lv_aload_n X.1 X.2.1 dX3_readsRelation_23 rfl (lv_at hl 1 rfl) ?_
    refine g3_0 X I (k := 7) (by decide) rfl lf_X3_9 dX3_readsRelation_24 ?_
    refine r_ev I (r_runV X I pk_X7_pass (c7_pass l G _ _) lm_X3_68 (by decide) (cl_7 rfl) rfl rfl rfl hl.1 rfl (Nat.le_of_ble_eq_true rfl) dX3_readsRelation_27 ⟨Nat.le_of_ble_eq_true rfl, Nat.le_of_ble_eq_true rfl⟩ ⟨Nat.le_refl 0, Nat.le_refl 0⟩) (fun H locs I => ?_)
    refine lv_aload_n X.1 X.2.1 dX3_readsRelation_30 rfl (lv_at hl 1 rfl) ?_
    refine lv_iload_n X.1 X.2.1 dX3_readsRelation_31 rfl (lv_at hl 2 rfl) ?_
    refine r_ei I (r_runV X I pk_X3_readsSum (c3_sum l G _ _ _ (hx0)) lm_X3_56 (by decide) (cl_3 rfl) rfl rfl rfl hl.1 rfl (Nat.le_of_ble_eq_true rfl) dX3_readsRelation_32 ⟨Nat.le_of_ble_eq_true rfl, Nat.le_of_ble_eq_true rfl⟩ ⟨Nat.le_refl 0, Nat.le_refl 0⟩) (fun H locs I => ?_)
    refine lv_if_ne (tgt := 40) X.1 X.2.1 dX3_readsRelation_35 (by decide) (fun c_2 => ?_) (fun c_2 => ?_)
    · skip
      refine lv_aload_n X.1 X.2.1 dX3_readsRelation_40 rfl (lv_at hl 1 rfl) ?_
      refine g3_1 X I (k := 7) (by decide) rfl lf_X3_18 dX3_readsRelation_41 ?_
      refine lv_iload_n X.1 X.2.1 dX3_readsRelation_44 rfl (lv_at hl 0 rfl) ?_
      refine lv_ineg X.1 X.2.1 dX3_readsRelation_45 ?_
      refine r_ev I (r_runV X I pk_X1_add (c1_add l G (k := 8) ⟨by decide, rfl, rfl⟩ _ _ _) lm_X3_34 (by decide) (cl_1 rfl) rfl rfl rfl hl.1 rfl (Nat.le_of_ble_eq_true rfl) dX3_readsRelation_46 ⟨Nat.le_of_ble_eq_true rfl, Nat.le_of_ble_eq_true rfl⟩ ⟨Nat.le_refl 0, Nat.le_refl 0⟩) (fun H locs I => ?_)
      refine lv_iconst (v := 1) X.1 X.2.1 dX3_readsRelation_49 (by decide) ?_
      have h9 := hE.trans ((if_pos (b2i_y c_1)).trans ((if_pos (b2i_y c_2)).trans rfl))
      exact r_zret X I rfl (e_i (congrArg b2i (congrArg Prod.fst h9)).symm (congrArg Prod.snd h9).symm rfl) dX3_readsRelation_50
    · skip
      refine lv_iconst (v := 0) X.1 X.2.1 dX3_readsRelation_38 (by decide) ?_
      have h9 := hE.trans ((if_pos (b2i_y c_1)).trans ((if_neg (b2i_n c_2)).trans rfl))
      exact r_zret X I rfl (e_i (congrArg b2i (congrArg Prod.fst h9)).symm (congrArg Prod.snd h9).symm rfl) dX3_readsRelation_39
  · skip
    refine lv_aload_n X.1 X.2.1 dX3_readsRelation_15 rfl (lv_at hl 1 rfl) ?_
    refine g3_0 X I (k := 7) (by decide) rfl lf_X3_9 dX3_readsRelation_16 ?_
    refine r_ei I (r_runV X I pk_X7_fails (c7_fails l G _ _) lm_X3_46 (by decide) (cl_7 rfl) rfl rfl rfl hl.1 rfl (Nat.le_of_ble_eq_true rfl) dX3_readsRelation_19 ⟨Nat.le_of_ble_eq_true rfl, Nat.le_of_ble_eq_true rfl⟩ ⟨Nat.le_refl 0, Nat.le_refl 0⟩) (fun H locs I => ?_)
    have h9 := hE.trans ((if_neg (b2i_n c_1)).trans rfl)
    exact r_zret X I (b2i_nar _) (e_i (congrArg b2i (congrArg Prod.fst h9)).symm (congrArg Prod.snd h9).symm rfl) dX3_readsRelation_22
def f3_readsUnit (C : SI → Int32 → Bool → Bool × SI) (U : SI → Int32 → Bool × SI) (σ : SI) (x1 : Int32) : Bool × SI := let r0 := (f7_peek σ); if r0.1 = (33 : Int32) then (if x1 < (6 : Int32) then (let s1 := (f7_pass r0.2); if r0.1 = (40 : Int32) then (let r4 := (C s1 (x1 + (1 : Int32)) false); if r4.1 = true then (let r5 := (f7_takes r4.2 (41 : Int32)); if r5.1 = true then (true, r5.2) else (false, r5.2)) else (false, r4.2)) else (let r2 := (U s1 (x1 + (1 : Int32))); if r2.1 = true then (let s3 := (f1_add 8 r2.2 (-33 : Int32)); (true, s3)) else (false, r2.2))) else (let r6 := (f7_fails r0.2); (r6.1, r6.2))) else (if r0.1 = (40 : Int32) then (if x1 < (6 : Int32) then (let s7 := (f7_pass r0.2); if r0.1 = (40 : Int32) then (let r10 := (C s7 (x1 + (1 : Int32)) false); if r10.1 = true then (let r11 := (f7_takes r10.2 (41 : Int32)); if r11.1 = true then (true, r11.2) else (false, r11.2)) else (false, r10.2)) else (let r8 := (U s7 (x1 + (1 : Int32))); if r8.1 = true then (let s9 := (f1_add 8 r8.2 (-33 : Int32)); (true, s9)) else (false, r8.2))) else (let r12 := (f7_fails r0.2); (r12.1, r12.2))) else (let r13 := (f3_sum r0.2 x1); if r13.1 = true then (let r14 := (f3_readsRelation r13.2 x1); if r14.1 = true then (true, r14.2) else (false, r14.2)) else (false, r13.2)))
theorem w_f3_readsUnit {C : SI → Int32 → Bool → Bool × SI} {U : SI → Int32 → Bool × SI} (hU : ∀ (σ : SI) (x1 : Int32) (b : Nat), b ≠ 1 → b ≠ 8 → b ≠ 9 → (U σ x1).2 b = σ b) (hC : ∀ (σ : SI) (x1 : Int32) (x2 : Bool) (b : Nat), b ≠ 1 → b ≠ 8 → b ≠ 9 → (C σ x1 x2).2 b = σ b) (σ : SI) (x1 : Int32) (a : Nat) (h0 : a ≠ 1) (h1 : a ≠ 8) (h2 : a ≠ 9) : (f3_readsUnit C U σ x1).2 a = σ a := by
  unfold f3_readsUnit
  (repeat' split) <;> (first | rfl | (simp only [sp_n, su_n, ne_eq, not_false_eq_true, h0, h1, h2, w_f1_add, w_f3_readsRelation, w_f3_sum, w_f7_fails, w_f7_pass, w_f7_peek, w_f7_takes, hU, hC]; done) | (simp [sp_n, su_n, ne_eq, not_false_eq_true, h0, h1, h2, w_f1_add, w_f3_readsRelation, w_f3_sum, w_f7_fails, w_f7_pass, w_f7_peek, w_f7_takes, hU, hC]; done))
set_option maxHeartbeats 4000000 in
set_option maxRecDepth 100000 in
theorem c3_readsUnit (l : Launch) (G : GT) {U : SI → Int32 → Bool × SI} {C : SI → Int32 → Bool → Bool × SI} {D : Nat} (hU : ∀ (σ : SI) (τ : SL) (x1 : Int32), ¬ x1 < 0 → (Int32.toInt 6 - Int32.toInt x1).toNat < D → Mc l yX3_readsUnit cX3_readsUnit 3 (some .boolean) (40 + 3 * D + 1) G [.ref (G.2.1 7), .int x1] σ τ (Qi G (Ei (b2i (U σ x1).1) (U σ x1).2 τ))) (hC : ∀ (σ : SI) (τ : SL) (x1 : Int32) (x2 : Bool), ¬ x1 < 0 → (Int32.toInt 6 - Int32.toInt x1).toNat < D → Mc l yX3_readsCondition cX3_readsCondition 4 (some .boolean) (40 + 3 * D + 3) G [.ref (G.2.1 7), .int x1, .int (b2i x2)] σ τ (Qi G (Ei (b2i (C σ x1 x2).1) (C σ x1 x2).2 τ))) (σ : SI) (τ : SL) (x1 : Int32) (hx0 : ¬ x1 < 0) (hx : (Int32.toInt 6 - Int32.toInt x1).toNat < D + 1) : Mc l yX3_readsUnit cX3_readsUnit 3 (some .boolean) (40 + 3 * D + 4) G [.ref (G.2.1 7), .int x1] σ τ (Qi G (Ei (b2i (f3_readsUnit C U σ x1).1) (f3_readsUnit C U σ x1).2 τ)) := by
  refine m_start (by decide +kernel) (Nat.le_of_ble_eq_true rfl) rfl (fun p e s m args below meth c ls X I hl => ?_)
  have hl : lv_has ls 3 [(0, .ref (G.2.1 7)), (1, .int x1)] := hl
  obtain ⟨E, hE⟩ : ∃ E, E = (f3_readsUnit C U σ x1) := ⟨_, rfl⟩
  rw [← hE]
  refine lv_aload_n X.1 X.2.1 dX3_readsUnit_0 rfl (lv_at hl 0 rfl) ?_
  refine g3_0 X I (k := 7) (by decide) rfl lf_X3_9 dX3_readsUnit_1 ?_
  refine r_ei I (r_runV X I pk_X7_peek (c7_peek l G _ _) lm_X3_38 (by decide) (cl_7 rfl) rfl rfl rfl hl.1 rfl (Nat.le_of_ble_eq_true rfl) dX3_readsUnit_4 (hr_le (by omega) (by decide)) ⟨Nat.le_refl 0, Nat.le_refl 0⟩) (fun H locs I => ?_)
  refine lv_istore_n (lv' := [(2, .int _), (0, .ref _), (1, .int _)]) X.1 X.2.1 dX3_readsUnit_7 rfl hl (by decide) rfl (fun ls hl => ?_)
  refine lv_iload_n X.1 X.2.1 dX3_readsUnit_8 rfl (lv_at hl 0 rfl) ?_
  refine lv_bipush (v := 33) X.1 X.2.1 dX3_readsUnit_9 (by decide) ?_
  refine lv_icmp_eq (tgt := 42) X.1 X.2.1 dX3_readsUnit_11 (by decide) (fun c_1 => ?_) (fun c_1 => ?_)
  · skip
    refine lv_iload_n X.1 X.2.1 dX3_readsUnit_42 rfl (lv_at hl 2 rfl) ?_
    refine lv_bipush (v := 6) X.1 X.2.1 dX3_readsUnit_43 (by decide) ?_
    refine lv_icmp_lt (tgt := 56) X.1 X.2.1 dX3_readsUnit_45 (by decide) (fun c_2 => ?_) (fun c_2 => ?_)
    · skip
      refine lv_aload_n X.1 X.2.1 dX3_readsUnit_56 rfl (lv_at hl 1 rfl) ?_
      refine g3_0 X I (k := 7) (by decide) rfl lf_X3_9 dX3_readsUnit_57 ?_
      refine r_ev I (r_runV X I pk_X7_pass (c7_pass l G _ _) lm_X3_68 (by decide) (cl_7 rfl) rfl rfl rfl hl.1 rfl (Nat.le_of_ble_eq_true rfl) dX3_readsUnit_60 (hr_le (by omega) (by decide)) ⟨Nat.le_refl 0, Nat.le_refl 0⟩) (fun H locs I => ?_)
      refine lv_iload_n X.1 X.2.1 dX3_readsUnit_63 rfl (lv_at hl 0 rfl) ?_
      refine lv_bipush (v := 40) X.1 X.2.1 dX3_readsUnit_64 (by decide) ?_
      refine lv_icmp_ne (tgt := 98) X.1 X.2.1 dX3_readsUnit_66 (by decide) (fun c_3 => ?_) (fun c_3 => ?_)
      · skip
        refine lv_aload_n X.1 X.2.1 dX3_readsUnit_98 rfl (lv_at hl 1 rfl) ?_
        refine lv_iload_n X.1 X.2.1 dX3_readsUnit_99 rfl (lv_at hl 2 rfl) ?_
        refine lv_iconst (v := 1) X.1 X.2.1 dX3_readsUnit_100 (by decide) ?_
        refine lv_iadd X.1 X.2.1 dX3_readsUnit_101 ?_
        refine r_ei I (r_runV X I pk_X3_readsUnit (hU _ _ _ (up_nn hx0 (vp_lt c_2)) (Nat.lt_of_lt_of_le (up_dec (vp_lt c_2)) (Nat.le_of_lt_succ hx))) lm_X3_71 (by decide) (cl_3 rfl) rfl rfl rfl hl.1 rfl (Nat.le_of_ble_eq_true rfl) dX3_readsUnit_102 (hr_le (by omega) (by decide)) ⟨Nat.le_refl 0, Nat.le_refl 0⟩) (fun H locs I => ?_)
        refine lv_if_ne (tgt := 110) X.1 X.2.1 dX3_readsUnit_105 (by decide) (fun c_4 => ?_) (fun c_4 => ?_)
        · skip
          refine lv_aload_n X.1 X.2.1 dX3_readsUnit_110 rfl (lv_at hl 1 rfl) ?_
          refine g3_1 X I (k := 7) (by decide) rfl lf_X3_18 dX3_readsUnit_111 ?_
          refine lv_bipush (v := (-33)) X.1 X.2.1 dX3_readsUnit_114 (by decide) ?_
          refine r_ev I (r_runV X I pk_X1_add (c1_add l G (k := 8) ⟨by decide, rfl, rfl⟩ _ _ _) lm_X3_34 (by decide) (cl_1 rfl) rfl rfl rfl hl.1 rfl (Nat.le_of_ble_eq_true rfl) dX3_readsUnit_116 (hr_le (by omega) (by decide)) ⟨Nat.le_refl 0, Nat.le_refl 0⟩) (fun H locs I => ?_)
          refine lv_iconst (v := 1) X.1 X.2.1 dX3_readsUnit_119 (by decide) ?_
          have h9 := hE.trans ((if_pos c_1).trans ((if_pos c_2).trans ((if_neg c_3).trans ((if_pos (b2i_y c_4)).trans rfl))))
          exact r_zret X I rfl (e_i (congrArg b2i (congrArg Prod.fst h9)).symm (congrArg Prod.snd h9).symm rfl) dX3_readsUnit_120
        · skip
          refine lv_iconst (v := 0) X.1 X.2.1 dX3_readsUnit_108 (by decide) ?_
          have h9 := hE.trans ((if_pos c_1).trans ((if_pos c_2).trans ((if_neg c_3).trans ((if_neg (b2i_n c_4)).trans rfl))))
          exact r_zret X I rfl (e_i (congrArg b2i (congrArg Prod.fst h9)).symm (congrArg Prod.snd h9).symm rfl) dX3_readsUnit_109
      · skip
        refine lv_aload_n X.1 X.2.1 dX3_readsUnit_69 rfl (lv_at hl 1 rfl) ?_
        refine lv_iload_n X.1 X.2.1 dX3_readsUnit_70 rfl (lv_at hl 2 rfl) ?_
        refine lv_iconst (v := 1) X.1 X.2.1 dX3_readsUnit_71 (by decide) ?_
        refine lv_iadd X.1 X.2.1 dX3_readsUnit_72 ?_
        refine lv_iconst (v := 0) X.1 X.2.1 dX3_readsUnit_73 (by decide) ?_
        refine r_ei I (r_runV X I pk_X3_readsCondition (hC _ _ _ false (up_nn hx0 (vp_lt c_2)) (Nat.lt_of_lt_of_le (up_dec (vp_lt c_2)) (Nat.le_of_lt_succ hx))) lm_X3_49 (by decide) (cl_3 rfl) rfl rfl rfl hl.1 rfl (Nat.le_of_ble_eq_true rfl) dX3_readsUnit_74 (hr_le (by omega) (by decide)) ⟨Nat.le_refl 0, Nat.le_refl 0⟩) (fun H locs I => ?_)
        refine lv_if_eq (tgt := 96) X.1 X.2.1 dX3_readsUnit_77 (by decide) (fun c_5 => ?_) (fun c_5 => ?_)
        · skip
          refine lv_iconst (v := 0) X.1 X.2.1 dX3_readsUnit_96 (by decide) ?_
          have h9 := hE.trans ((if_pos c_1).trans ((if_pos c_2).trans ((if_pos c_3).trans ((if_neg (b2i_n c_5)).trans rfl))))
          exact r_zret X I rfl (e_i (congrArg b2i (congrArg Prod.fst h9)).symm (congrArg Prod.snd h9).symm rfl) dX3_readsUnit_97
        · skip
          refine lv_aload_n X.1 X.2.1 dX3_readsUnit_80 rfl (lv_at hl 1 rfl) ?_
          refine g3_0 X I (k := 7) (by decide) rfl lf_X3_9 dX3_readsUnit_81 ?_
          refine lv_bipush (v := 41) X.1 X.2.1 dX3_readsUnit_84 (by decide) ?_
          refine r_ei I (r_runV X I pk_X7_takes (c7_takes l G _ _ _) lm_X3_42 (by decide) (cl_7 rfl) rfl rfl rfl hl.1 rfl (Nat.le_of_ble_eq_true rfl) dX3_readsUnit_86 (hr_le (by omega) (by decide)) ⟨Nat.le_refl 0, Nat.le_refl 0⟩) (fun H locs I => ?_)
          refine lv_if_eq (tgt := 96) X.1 X.2.1 dX3_readsUnit_89 (by decide) (fun c_6 => ?_) (fun c_6 => ?_)
          · skip
            refine lv_iconst (v := 0) X.1 X.2.1 dX3_readsUnit_96 (by decide) ?_
            have h9 := hE.trans ((if_pos c_1).trans ((if_pos c_2).trans ((if_pos c_3).trans ((if_pos (b2i_y c_5)).trans ((if_neg (b2i_n c_6)).trans rfl)))))
            exact r_zret X I rfl (e_i (congrArg b2i (congrArg Prod.fst h9)).symm (congrArg Prod.snd h9).symm rfl) dX3_readsUnit_97
          · skip
            refine lv_iconst (v := 1) X.1 X.2.1 dX3_readsUnit_92 (by decide) ?_
            refine lv_goto (tgt := 97) X.1 X.2.1 dX3_readsUnit_93 (by decide) ?_
            have h9 := hE.trans ((if_pos c_1).trans ((if_pos c_2).trans ((if_pos c_3).trans ((if_pos (b2i_y c_5)).trans ((if_pos (b2i_y c_6)).trans rfl)))))
            exact r_zret X I rfl (e_i (congrArg b2i (congrArg Prod.fst h9)).symm (congrArg Prod.snd h9).symm rfl) dX3_readsUnit_97
    · skip
      refine lv_aload_n X.1 X.2.1 dX3_readsUnit_48 rfl (lv_at hl 1 rfl) ?_
      refine g3_0 X I (k := 7) (by decide) rfl lf_X3_9 dX3_readsUnit_49 ?_
      refine r_ei I (r_runV X I pk_X7_fails (c7_fails l G _ _) lm_X3_46 (by decide) (cl_7 rfl) rfl rfl rfl hl.1 rfl (Nat.le_of_ble_eq_true rfl) dX3_readsUnit_52 (hr_le (by omega) (by decide)) ⟨Nat.le_refl 0, Nat.le_refl 0⟩) (fun H locs I => ?_)
      have h9 := hE.trans ((if_pos c_1).trans ((if_neg c_2).trans rfl))
      exact r_zret X I (b2i_nar _) (e_i (congrArg b2i (congrArg Prod.fst h9)).symm (congrArg Prod.snd h9).symm rfl) dX3_readsUnit_55
  · skip
    refine lv_iload_n X.1 X.2.1 dX3_readsUnit_14 rfl (lv_at hl 0 rfl) ?_
    refine lv_bipush (v := 40) X.1 X.2.1 dX3_readsUnit_15 (by decide) ?_
    refine lv_icmp_eq (tgt := 42) X.1 X.2.1 dX3_readsUnit_17 (by decide) (fun c_7 => ?_) (fun c_7 => ?_)
    · skip
      refine lv_iload_n X.1 X.2.1 dX3_readsUnit_42 rfl (lv_at hl 2 rfl) ?_
      refine lv_bipush (v := 6) X.1 X.2.1 dX3_readsUnit_43 (by decide) ?_
      refine lv_icmp_lt (tgt := 56) X.1 X.2.1 dX3_readsUnit_45 (by decide) (fun c_8 => ?_) (fun c_8 => ?_)
      · skip
        refine lv_aload_n X.1 X.2.1 dX3_readsUnit_56 rfl (lv_at hl 1 rfl) ?_
        refine g3_0 X I (k := 7) (by decide) rfl lf_X3_9 dX3_readsUnit_57 ?_
        refine r_ev I (r_runV X I pk_X7_pass (c7_pass l G _ _) lm_X3_68 (by decide) (cl_7 rfl) rfl rfl rfl hl.1 rfl (Nat.le_of_ble_eq_true rfl) dX3_readsUnit_60 (hr_le (by omega) (by decide)) ⟨Nat.le_refl 0, Nat.le_refl 0⟩) (fun H locs I => ?_)
        refine lv_iload_n X.1 X.2.1 dX3_readsUnit_63 rfl (lv_at hl 0 rfl) ?_
        refine lv_bipush (v := 40) X.1 X.2.1 dX3_readsUnit_64 (by decide) ?_
        refine lv_icmp_ne (tgt := 98) X.1 X.2.1 dX3_readsUnit_66 (by decide) (fun c_9 => ?_) (fun c_9 => ?_)
        · skip
          refine lv_aload_n X.1 X.2.1 dX3_readsUnit_98 rfl (lv_at hl 1 rfl) ?_
          refine lv_iload_n X.1 X.2.1 dX3_readsUnit_99 rfl (lv_at hl 2 rfl) ?_
          refine lv_iconst (v := 1) X.1 X.2.1 dX3_readsUnit_100 (by decide) ?_
          refine lv_iadd X.1 X.2.1 dX3_readsUnit_101 ?_
          refine r_ei I (r_runV X I pk_X3_readsUnit (hU _ _ _ (up_nn hx0 (vp_lt c_8)) (Nat.lt_of_lt_of_le (up_dec (vp_lt c_8)) (Nat.le_of_lt_succ hx))) lm_X3_71 (by decide) (cl_3 rfl) rfl rfl rfl hl.1 rfl (Nat.le_of_ble_eq_true rfl) dX3_readsUnit_102 (hr_le (by omega) (by decide)) ⟨Nat.le_refl 0, Nat.le_refl 0⟩) (fun H locs I => ?_)
          refine lv_if_ne (tgt := 110) X.1 X.2.1 dX3_readsUnit_105 (by decide) (fun c_10 => ?_) (fun c_10 => ?_)
          · skip
            refine lv_aload_n X.1 X.2.1 dX3_readsUnit_110 rfl (lv_at hl 1 rfl) ?_
            refine g3_1 X I (k := 7) (by decide) rfl lf_X3_18 dX3_readsUnit_111 ?_
            refine lv_bipush (v := (-33)) X.1 X.2.1 dX3_readsUnit_114 (by decide) ?_
            refine r_ev I (r_runV X I pk_X1_add (c1_add l G (k := 8) ⟨by decide, rfl, rfl⟩ _ _ _) lm_X3_34 (by decide) (cl_1 rfl) rfl rfl rfl hl.1 rfl (Nat.le_of_ble_eq_true rfl) dX3_readsUnit_116 (hr_le (by omega) (by decide)) ⟨Nat.le_refl 0, Nat.le_refl 0⟩) (fun H locs I => ?_)
            refine lv_iconst (v := 1) X.1 X.2.1 dX3_readsUnit_119 (by decide) ?_
            have h9 := hE.trans ((if_neg c_1).trans ((if_pos c_7).trans ((if_pos c_8).trans ((if_neg c_9).trans ((if_pos (b2i_y c_10)).trans rfl)))))
            exact r_zret X I rfl (e_i (congrArg b2i (congrArg Prod.fst h9)).symm (congrArg Prod.snd h9).symm rfl) dX3_readsUnit_120
          · skip
            refine lv_iconst (v := 0) X.1 X.2.1 dX3_readsUnit_108 (by decide) ?_
            have h9 := hE.trans ((if_neg c_1).trans ((if_pos c_7).trans ((if_pos c_8).trans ((if_neg c_9).trans ((if_neg (b2i_n c_10)).trans rfl)))))
            exact r_zret X I rfl (e_i (congrArg b2i (congrArg Prod.fst h9)).symm (congrArg Prod.snd h9).symm rfl) dX3_readsUnit_109
        · skip
          refine lv_aload_n X.1 X.2.1 dX3_readsUnit_69 rfl (lv_at hl 1 rfl) ?_
          refine lv_iload_n X.1 X.2.1 dX3_readsUnit_70 rfl (lv_at hl 2 rfl) ?_
          refine lv_iconst (v := 1) X.1 X.2.1 dX3_readsUnit_71 (by decide) ?_
          refine lv_iadd X.1 X.2.1 dX3_readsUnit_72 ?_
          refine lv_iconst (v := 0) X.1 X.2.1 dX3_readsUnit_73 (by decide) ?_
          refine r_ei I (r_runV X I pk_X3_readsCondition (hC _ _ _ false (up_nn hx0 (vp_lt c_8)) (Nat.lt_of_lt_of_le (up_dec (vp_lt c_8)) (Nat.le_of_lt_succ hx))) lm_X3_49 (by decide) (cl_3 rfl) rfl rfl rfl hl.1 rfl (Nat.le_of_ble_eq_true rfl) dX3_readsUnit_74 (hr_le (by omega) (by decide)) ⟨Nat.le_refl 0, Nat.le_refl 0⟩) (fun H locs I => ?_)
          refine lv_if_eq (tgt := 96) X.1 X.2.1 dX3_readsUnit_77 (by decide) (fun c_11 => ?_) (fun c_11 => ?_)
          · skip
            refine lv_iconst (v := 0) X.1 X.2.1 dX3_readsUnit_96 (by decide) ?_
            have h9 := hE.trans ((if_neg c_1).trans ((if_pos c_7).trans ((if_pos c_8).trans ((if_pos c_9).trans ((if_neg (b2i_n c_11)).trans rfl)))))
            exact r_zret X I rfl (e_i (congrArg b2i (congrArg Prod.fst h9)).symm (congrArg Prod.snd h9).symm rfl) dX3_readsUnit_97
          · skip
            refine lv_aload_n X.1 X.2.1 dX3_readsUnit_80 rfl (lv_at hl 1 rfl) ?_
            refine g3_0 X I (k := 7) (by decide) rfl lf_X3_9 dX3_readsUnit_81 ?_
            refine lv_bipush (v := 41) X.1 X.2.1 dX3_readsUnit_84 (by decide) ?_
            refine r_ei I (r_runV X I pk_X7_takes (c7_takes l G _ _ _) lm_X3_42 (by decide) (cl_7 rfl) rfl rfl rfl hl.1 rfl (Nat.le_of_ble_eq_true rfl) dX3_readsUnit_86 (hr_le (by omega) (by decide)) ⟨Nat.le_refl 0, Nat.le_refl 0⟩) (fun H locs I => ?_)
            refine lv_if_eq (tgt := 96) X.1 X.2.1 dX3_readsUnit_89 (by decide) (fun c_12 => ?_) (fun c_12 => ?_)
            · skip
              refine lv_iconst (v := 0) X.1 X.2.1 dX3_readsUnit_96 (by decide) ?_
              have h9 := hE.trans ((if_neg c_1).trans ((if_pos c_7).trans ((if_pos c_8).trans ((if_pos c_9).trans ((if_pos (b2i_y c_11)).trans ((if_neg (b2i_n c_12)).trans rfl))))))
              exact r_zret X I rfl (e_i (congrArg b2i (congrArg Prod.fst h9)).symm (congrArg Prod.snd h9).symm rfl) dX3_readsUnit_97
            · skip
              refine lv_iconst (v := 1) X.1 X.2.1 dX3_readsUnit_92 (by decide) ?_
              refine lv_goto (tgt := 97) X.1 X.2.1 dX3_readsUnit_93 (by decide) ?_
              have h9 := hE.trans ((if_neg c_1).trans ((if_pos c_7).trans ((if_pos c_8).trans ((if_pos c_9).trans ((if_pos (b2i_y c_11)).trans ((if_pos (b2i_y c_12)).trans rfl))))))
              exact r_zret X I rfl (e_i (congrArg b2i (congrArg Prod.fst h9)).symm (congrArg Prod.snd h9).symm rfl) dX3_readsUnit_97
      · skip
        refine lv_aload_n X.1 X.2.1 dX3_readsUnit_48 rfl (lv_at hl 1 rfl) ?_
        refine g3_0 X I (k := 7) (by decide) rfl lf_X3_9 dX3_readsUnit_49 ?_
        refine r_ei I (r_runV X I pk_X7_fails (c7_fails l G _ _) lm_X3_46 (by decide) (cl_7 rfl) rfl rfl rfl hl.1 rfl (Nat.le_of_ble_eq_true rfl) dX3_readsUnit_52 (hr_le (by omega) (by decide)) ⟨Nat.le_refl 0, Nat.le_refl 0⟩) (fun H locs I => ?_)
        have h9 := hE.trans ((if_neg c_1).trans ((if_pos c_7).trans ((if_neg c_8).trans rfl)))
        exact r_zret X I (b2i_nar _) (e_i (congrArg b2i (congrArg Prod.fst h9)).symm (congrArg Prod.snd h9).symm rfl) dX3_readsUnit_55
    · skip
      refine lv_aload_n X.1 X.2.1 dX3_readsUnit_20 rfl (lv_at hl 1 rfl) ?_
      refine lv_iload_n X.1 X.2.1 dX3_readsUnit_21 rfl (lv_at hl 2 rfl) ?_
      refine r_ei I (r_runV X I pk_X3_readsSum (c3_sum l G _ _ _ (hx0)) lm_X3_56 (by decide) (cl_3 rfl) rfl rfl rfl hl.1 rfl (Nat.le_of_ble_eq_true rfl) dX3_readsUnit_22 (hr_le (by omega) (by decide)) ⟨Nat.le_refl 0, Nat.le_refl 0⟩) (fun H locs I => ?_)
      refine lv_if_eq (tgt := 40) X.1 X.2.1 dX3_readsUnit_25 (by decide) (fun c_13 => ?_) (fun c_13 => ?_)
      · skip
        refine lv_iconst (v := 0) X.1 X.2.1 dX3_readsUnit_40 (by decide) ?_
        have h9 := hE.trans ((if_neg c_1).trans ((if_neg c_7).trans ((if_neg (b2i_n c_13)).trans rfl)))
        exact r_zret X I rfl (e_i (congrArg b2i (congrArg Prod.fst h9)).symm (congrArg Prod.snd h9).symm rfl) dX3_readsUnit_41
      · skip
        refine lv_aload_n X.1 X.2.1 dX3_readsUnit_28 rfl (lv_at hl 1 rfl) ?_
        refine lv_iload_n X.1 X.2.1 dX3_readsUnit_29 rfl (lv_at hl 2 rfl) ?_
        refine r_ei I (r_runV X I pk_X3_readsRelation (c3_readsRelation l G _ _ _ (hx0)) lm_X3_62 (by decide) (cl_3 rfl) rfl rfl rfl hl.1 rfl (Nat.le_of_ble_eq_true rfl) dX3_readsUnit_30 (hr_le (by omega) (by decide)) ⟨Nat.le_refl 0, Nat.le_refl 0⟩) (fun H locs I => ?_)
        refine lv_if_eq (tgt := 40) X.1 X.2.1 dX3_readsUnit_33 (by decide) (fun c_14 => ?_) (fun c_14 => ?_)
        · skip
          refine lv_iconst (v := 0) X.1 X.2.1 dX3_readsUnit_40 (by decide) ?_
          have h9 := hE.trans ((if_neg c_1).trans ((if_neg c_7).trans ((if_pos (b2i_y c_13)).trans ((if_neg (b2i_n c_14)).trans rfl))))
          exact r_zret X I rfl (e_i (congrArg b2i (congrArg Prod.fst h9)).symm (congrArg Prod.snd h9).symm rfl) dX3_readsUnit_41
        · skip
          refine lv_iconst (v := 1) X.1 X.2.1 dX3_readsUnit_36 (by decide) ?_
          refine lv_goto (tgt := 41) X.1 X.2.1 dX3_readsUnit_37 (by decide) ?_
          have h9 := hE.trans ((if_neg c_1).trans ((if_neg c_7).trans ((if_pos (b2i_y c_13)).trans ((if_pos (b2i_y c_14)).trans rfl))))
          exact r_zret X I rfl (e_i (congrArg b2i (congrArg Prod.fst h9)).symm (congrArg Prod.snd h9).symm rfl) dX3_readsUnit_41
def f3_readsTruth_c16 (U : SI → Int32 → Bool × SI) (x1 : Int32) (x2 : Bool) : Nat → Int32 → SI → (Bool × SI)
  | 0, _, σ => (false, σ)
  | fu + 1, v3, σ => if (240 : Int32) ≤ v3 then (let r0 := (f7_fails σ); (r0.1, r0.2)) else (let r1 := (f7_peek σ); if r1.1 = (38 : Int32) then (let s2 := (f7_pass r1.2); let r3 := (U s2 x1); if r3.1 = true then (let s4 := (f1_add 8 r3.2 (-38 : Int32)); (f3_readsTruth_c16 U x1 x2 fu (v3 + 1) s4)) else (false, r3.2)) else (true, r1.2))
def f3_readsTruth (U : SI → Int32 → Bool × SI) (σ : SI) (x1 : Int32) (x2 : Bool) : Bool × SI := if x2 = true then (f3_readsTruth_c16 U x1 x2 ((Int32.toInt (240 : Int32) - Int32.toInt (0 : Int32)).toNat + 1) (0 : Int32) σ) else (let r5 := (U σ x1); if r5.1 = true then (f3_readsTruth_c16 U x1 x2 ((Int32.toInt (240 : Int32) - Int32.toInt (0 : Int32)).toNat + 1) (0 : Int32) r5.2) else (false, r5.2))
theorem w_f3_readsTruth_c16 {U : SI → Int32 → Bool × SI} (hU : ∀ (σ : SI) (x1 : Int32) (b : Nat), b ≠ 1 → b ≠ 8 → b ≠ 9 → (U σ x1).2 b = σ b) (x1 : Int32) (x2 : Bool) (a : Nat) (h0 : a ≠ 1) (h1 : a ≠ 8) (h2 : a ≠ 9) : ∀ (fu : Nat) (v3 : Int32) (σ : SI), (f3_readsTruth_c16 U x1 x2 fu v3 σ).2 a = σ a := by
  intro fu
  induction fu with
  | zero => intros; rfl
  | succ fu ih =>
    intro v3 σ
    unfold f3_readsTruth_c16
    (repeat' split) <;> (first | rfl | (simp only [sp_n, su_n, ne_eq, not_false_eq_true, h0, h1, h2, w_f1_add, w_f7_fails, w_f7_pass, w_f7_peek, hU, ih]; done) | (simp [sp_n, su_n, ne_eq, not_false_eq_true, h0, h1, h2, w_f1_add, w_f7_fails, w_f7_pass, w_f7_peek, hU, ih]; done))
theorem w_f3_readsTruth {U : SI → Int32 → Bool × SI} (hU : ∀ (σ : SI) (x1 : Int32) (b : Nat), b ≠ 1 → b ≠ 8 → b ≠ 9 → (U σ x1).2 b = σ b) (σ : SI) (x1 : Int32) (x2 : Bool) (a : Nat) (h0 : a ≠ 1) (h1 : a ≠ 8) (h2 : a ≠ 9) : (f3_readsTruth U σ x1 x2).2 a = σ a := by
  unfold f3_readsTruth
  (repeat' split) <;> (first | rfl | (simp only [sp_n, su_n, ne_eq, not_false_eq_true, h0, h1, h2, w_f1_add, w_f7_fails, w_f7_pass, w_f7_peek, hU, w_f3_readsTruth_c16]; done) | (simp [sp_n, su_n, ne_eq, not_false_eq_true, h0, h1, h2, w_f1_add, w_f7_fails, w_f7_pass, w_f7_peek, hU, w_f3_readsTruth_c16]; done))
set_option maxHeartbeats 4000000 in
set_option maxRecDepth 100000 in
theorem c3_readsTruth_c16 {l : Launch} {p : Program} {e : Env} {s : State} {m : MethodId} {args : Array Value} {below : List Frame} {meth : Method} {c : Code} {G : GT} (X : CX p s m args meth c cX3_readsTruth RX3 4 (some .boolean) G) {U : SI → Int32 → Bool × SI} {D : Nat} (hU : ∀ (σ : SI) (τ : SL) (x1 : Int32), ¬ x1 < 0 → (Int32.toInt 6 - Int32.toInt x1).toNat < D → Mc l yX3_readsUnit cX3_readsUnit 3 (some .boolean) (40 + 3 * D + 1) G [.ref (G.2.1 7), .int x1] σ τ (Qi G (Ei (b2i (U σ x1).1) (U σ x1).2 τ))) {E : Bool × SI} (τ : SL) (x1 : Int32) (x2 : Bool) (hx0 : ¬ x1 < 0) (hx : (Int32.toInt 6 - Int32.toInt x1).toNat < D) : ∀ (fu : Nat) (v3 : Int32) (σ : SI) (H : Heap) (locs : List Loc) (ls : Array Slot), IX G s H locs σ τ → lv_has ls 4 [(0, .ref (G.2.1 7)), (1, .int x1), (2, .int (b2i x2)), (3, .int v3)] → (Int32.toInt (240 : Int32) - Int32.toInt v3).toNat < fu → E = (f3_readsTruth_c16 U x1 x2 fu v3 σ) → W p l e (rmN (40 + 3 * D + 2)) s m args below meth c H locs 0 0 (MQ below ((Qi G (Ei (b2i E.1) E.2 τ)) s.heap.size) args s 0 0 (AW G s.heap.size)) (F0 m 16 ls []) := by
  intro fu
  induction fu with
  | zero =>
    intro v3 σ H locs ls I hl  hm hE
    exact absurd hm (Nat.not_lt_zero _)
  | succ fu ih =>
    intro v3 σ H locs ls I hl  hm hE
    refine lv_iload_n X.1 X.2.1 dX3_readsTruth_16 rfl (lv_at hl 3 rfl) ?_
    refine lv_sipush (v := 240) X.1 X.2.1 dX3_readsTruth_17 (by decide) ?_
    refine lv_icmp_ge (tgt := 69) X.1 X.2.1 dX3_readsTruth_20 (by decide) (fun c_2 => ?_) (fun c_2 => ?_)
    · skip
      refine lv_aload_n X.1 X.2.1 dX3_readsTruth_69 rfl (lv_at hl 0 rfl) ?_
      refine g3_0 X I (k := 7) (by decide) rfl lf_X3_9 dX3_readsTruth_70 ?_
      refine r_ei I (r_runV X I pk_X7_fails (c7_fails l G _ _) lm_X3_46 (by decide) (cl_7 rfl) rfl rfl rfl hl.1 rfl (Nat.le_of_ble_eq_true rfl) dX3_readsTruth_73 (hr_le (by omega) (by decide)) ⟨Nat.le_refl 0, Nat.le_refl 0⟩) (fun H locs I => ?_)
      have h9 := hE.trans ((if_pos c_2).trans rfl)
      exact r_zret X I (b2i_nar _) (e_i (congrArg b2i (congrArg Prod.fst h9)).symm (congrArg Prod.snd h9).symm rfl) dX3_readsTruth_76
    · skip
      refine lv_aload_n X.1 X.2.1 dX3_readsTruth_23 rfl (lv_at hl 0 rfl) ?_
      refine g3_0 X I (k := 7) (by decide) rfl lf_X3_9 dX3_readsTruth_24 ?_
      refine r_ei I (r_runV X I pk_X7_peek (c7_peek l G _ _) lm_X3_38 (by decide) (cl_7 rfl) rfl rfl rfl hl.1 rfl (Nat.le_of_ble_eq_true rfl) dX3_readsTruth_27 (hr_le (by omega) (by decide)) ⟨Nat.le_refl 0, Nat.le_refl 0⟩) (fun H locs I => ?_)
      refine lv_bipush (v := 38) X.1 X.2.1 dX3_readsTruth_30 (by decide) ?_
      refine lv_icmp_eq (tgt := 37) X.1 X.2.1 dX3_readsTruth_32 (by decide) (fun c_3 => ?_) (fun c_3 => ?_)
      · skip
        refine lv_aload_n X.1 X.2.1 dX3_readsTruth_37 rfl (lv_at hl 0 rfl) ?_
        refine g3_0 X I (k := 7) (by decide) rfl lf_X3_9 dX3_readsTruth_38 ?_
        refine r_ev I (r_runV X I pk_X7_pass (c7_pass l G _ _) lm_X3_68 (by decide) (cl_7 rfl) rfl rfl rfl hl.1 rfl (Nat.le_of_ble_eq_true rfl) dX3_readsTruth_41 (hr_le (by omega) (by decide)) ⟨Nat.le_refl 0, Nat.le_refl 0⟩) (fun H locs I => ?_)
        refine lv_aload_n X.1 X.2.1 dX3_readsTruth_44 rfl (lv_at hl 0 rfl) ?_
        refine lv_iload_n X.1 X.2.1 dX3_readsTruth_45 rfl (lv_at hl 1 rfl) ?_
        refine r_ei I (r_runV X I pk_X3_readsUnit (hU _ _ _ (hx0) (hx)) lm_X3_71 (by decide) (cl_3 rfl) rfl rfl rfl hl.1 rfl (Nat.le_of_ble_eq_true rfl) dX3_readsTruth_46 (hr_le (by omega) (by decide)) ⟨Nat.le_refl 0, Nat.le_refl 0⟩) (fun H locs I => ?_)
        refine lv_if_ne (tgt := 54) X.1 X.2.1 dX3_readsTruth_49 (by decide) (fun c_4 => ?_) (fun c_4 => ?_)
        · skip
          refine lv_aload_n X.1 X.2.1 dX3_readsTruth_54 rfl (lv_at hl 0 rfl) ?_
          refine g3_1 X I (k := 7) (by decide) rfl lf_X3_18 dX3_readsTruth_55 ?_
          refine lv_bipush (v := (-38)) X.1 X.2.1 dX3_readsTruth_58 (by decide) ?_
          refine r_ev I (r_runV X I pk_X1_add (c1_add l G (k := 8) ⟨by decide, rfl, rfl⟩ _ _ _) lm_X3_34 (by decide) (cl_1 rfl) rfl rfl rfl hl.1 rfl (Nat.le_of_ble_eq_true rfl) dX3_readsTruth_60 (hr_le (by omega) (by decide)) ⟨Nat.le_refl 0, Nat.le_refl 0⟩) (fun H locs I => ?_)
          refine lv_iinc (v := _ + 1) (lv' := [(3, .int _), (0, .ref _), (1, .int _), (2, .int _)]) X.1 X.2.1 dX3_readsTruth_63 hl (k := 3) rfl rfl (by decide) rfl (fun ls hl => ?_)
          refine lv_goto (tgt := 16) X.1 X.2.1 dX3_readsTruth_66 (by decide) ?_
          exact ih _ _ _ _ _ I (lv_sub hl [1, 2, 3, 0] rfl) (Nat.lt_of_lt_of_le (up_dec c_2) (Nat.le_of_lt_succ hm)) (hE.trans ((if_neg c_2).trans ((if_pos c_3).trans ((if_pos (b2i_y c_4)).trans rfl))))
        · skip
          refine lv_iconst (v := 0) X.1 X.2.1 dX3_readsTruth_52 (by decide) ?_
          have h9 := hE.trans ((if_neg c_2).trans ((if_pos c_3).trans ((if_neg (b2i_n c_4)).trans rfl)))
          exact r_zret X I rfl (e_i (congrArg b2i (congrArg Prod.fst h9)).symm (congrArg Prod.snd h9).symm rfl) dX3_readsTruth_53
      · skip
        refine lv_iconst (v := 1) X.1 X.2.1 dX3_readsTruth_35 (by decide) ?_
        have h9 := hE.trans ((if_neg c_2).trans ((if_neg c_3).trans rfl))
        exact r_zret X I rfl (e_i (congrArg b2i (congrArg Prod.fst h9)).symm (congrArg Prod.snd h9).symm rfl) dX3_readsTruth_36
set_option maxHeartbeats 4000000 in
set_option maxRecDepth 100000 in
theorem c3_readsTruth (l : Launch) (G : GT) {U : SI → Int32 → Bool × SI} {D : Nat} (hU : ∀ (σ : SI) (τ : SL) (x1 : Int32), ¬ x1 < 0 → (Int32.toInt 6 - Int32.toInt x1).toNat < D → Mc l yX3_readsUnit cX3_readsUnit 3 (some .boolean) (40 + 3 * D + 1) G [.ref (G.2.1 7), .int x1] σ τ (Qi G (Ei (b2i (U σ x1).1) (U σ x1).2 τ))) (σ : SI) (τ : SL) (x1 : Int32) (x2 : Bool) (hx0 : ¬ x1 < 0) (hx : (Int32.toInt 6 - Int32.toInt x1).toNat < D) : Mc l yX3_readsTruth cX3_readsTruth 4 (some .boolean) (40 + 3 * D + 2) G [.ref (G.2.1 7), .int x1, .int (b2i x2)] σ τ (Qi G (Ei (b2i (f3_readsTruth U σ x1 x2).1) (f3_readsTruth U σ x1 x2).2 τ)) := by
  refine m_start (by decide +kernel) (Nat.le_of_ble_eq_true rfl) rfl (fun p e s m args below meth c ls X I hl => ?_)
  have hl : lv_has ls 4 [(0, .ref (G.2.1 7)), (1, .int x1), (2, .int (b2i x2))] := hl
  obtain ⟨E, hE⟩ : ∃ E, E = (f3_readsTruth U σ x1 x2) := ⟨_, rfl⟩
  rw [← hE]
  refine lv_iload_n X.1 X.2.1 dX3_readsTruth_0 rfl (lv_at hl 2 rfl) ?_
  refine lv_if_ne (tgt := 14) X.1 X.2.1 dX3_readsTruth_1 (by decide) (fun c_1 => ?_) (fun c_1 => ?_)
  · skip
    refine lv_iconst (v := 0) X.1 X.2.1 dX3_readsTruth_14 (by decide) ?_
    refine lv_istore_n (lv' := [(3, .int _), (0, .ref _), (1, .int _), (2, .int _)]) X.1 X.2.1 dX3_readsTruth_15 rfl hl (by decide) rfl (fun ls hl => ?_)
    exact c3_readsTruth_c16 X hU _ _ _ hx0 hx _ _ _ _ _ _ I (lv_sub hl [1, 2, 3, 0] rfl) (Nat.lt_succ_self _) (hE.trans ((if_pos (b2i_y c_1)).trans rfl))
  · skip
    refine lv_aload_n X.1 X.2.1 dX3_readsTruth_4 rfl (lv_at hl 0 rfl) ?_
    refine lv_iload_n X.1 X.2.1 dX3_readsTruth_5 rfl (lv_at hl 1 rfl) ?_
    refine r_ei I (r_runV X I pk_X3_readsUnit (hU _ _ _ (hx0) (hx)) lm_X3_71 (by decide) (cl_3 rfl) rfl rfl rfl hl.1 rfl (Nat.le_of_ble_eq_true rfl) dX3_readsTruth_6 (hr_le (by omega) (by decide)) ⟨Nat.le_refl 0, Nat.le_refl 0⟩) (fun H locs I => ?_)
    refine lv_if_ne (tgt := 14) X.1 X.2.1 dX3_readsTruth_9 (by decide) (fun c_5 => ?_) (fun c_5 => ?_)
    · skip
      refine lv_iconst (v := 0) X.1 X.2.1 dX3_readsTruth_14 (by decide) ?_
      refine lv_istore_n (lv' := [(3, .int _), (0, .ref _), (1, .int _), (2, .int _)]) X.1 X.2.1 dX3_readsTruth_15 rfl hl (by decide) rfl (fun ls hl => ?_)
      exact c3_readsTruth_c16 X hU _ _ _ hx0 hx _ _ _ _ _ _ I (lv_sub hl [1, 2, 3, 0] rfl) (Nat.lt_succ_self _) (hE.trans ((if_neg (b2i_n c_1)).trans ((if_pos (b2i_y c_5)).trans rfl)))
    · skip
      refine lv_iconst (v := 0) X.1 X.2.1 dX3_readsTruth_12 (by decide) ?_
      have h9 := hE.trans ((if_neg (b2i_n c_1)).trans ((if_neg (b2i_n c_5)).trans rfl))
      exact r_zret X I rfl (e_i (congrArg b2i (congrArg Prod.fst h9)).symm (congrArg Prod.snd h9).symm rfl) dX3_readsTruth_13
def f3_readsCondition_c13 (T : SI → Int32 → Bool → Bool × SI) (x1 : Int32) (x2 : Bool) : Nat → Int32 → SI → (Bool × SI)
  | 0, _, σ => (false, σ)
  | fu + 1, v3, σ => if (240 : Int32) ≤ v3 then (let r1 := (f7_fails σ); (r1.1, r1.2)) else (let r2 := (f7_peek σ); if r2.1 = (124 : Int32) then (let s3 := (f7_pass r2.2); let r4 := (T s3 x1 false); if r4.1 = true then (let s5 := (f1_add 8 r4.2 (-124 : Int32)); (f3_readsCondition_c13 T x1 x2 fu (v3 + 1) s5)) else (false, r4.2)) else (true, r2.2))
def f3_readsCondition (T : SI → Int32 → Bool → Bool × SI) (σ : SI) (x1 : Int32) (x2 : Bool) : Bool × SI := let r0 := (T σ x1 x2); if r0.1 = true then (f3_readsCondition_c13 T x1 x2 ((Int32.toInt (240 : Int32) - Int32.toInt (0 : Int32)).toNat + 1) (0 : Int32) r0.2) else (false, r0.2)
theorem w_f3_readsCondition_c13 {T : SI → Int32 → Bool → Bool × SI} (hT : ∀ (σ : SI) (x1 : Int32) (x2 : Bool) (b : Nat), b ≠ 1 → b ≠ 8 → b ≠ 9 → (T σ x1 x2).2 b = σ b) (x1 : Int32) (x2 : Bool) (a : Nat) (h0 : a ≠ 1) (h1 : a ≠ 8) (h2 : a ≠ 9) : ∀ (fu : Nat) (v3 : Int32) (σ : SI), (f3_readsCondition_c13 T x1 x2 fu v3 σ).2 a = σ a := by
  intro fu
  induction fu with
  | zero => intros; rfl
  | succ fu ih =>
    intro v3 σ
    unfold f3_readsCondition_c13
    (repeat' split) <;> (first | rfl | (simp only [sp_n, su_n, ne_eq, not_false_eq_true, h0, h1, h2, w_f1_add, w_f7_fails, w_f7_pass, w_f7_peek, hT, ih]; done) | (simp [sp_n, su_n, ne_eq, not_false_eq_true, h0, h1, h2, w_f1_add, w_f7_fails, w_f7_pass, w_f7_peek, hT, ih]; done))
theorem w_f3_readsCondition {T : SI → Int32 → Bool → Bool × SI} (hT : ∀ (σ : SI) (x1 : Int32) (x2 : Bool) (b : Nat), b ≠ 1 → b ≠ 8 → b ≠ 9 → (T σ x1 x2).2 b = σ b) (σ : SI) (x1 : Int32) (x2 : Bool) (a : Nat) (h0 : a ≠ 1) (h1 : a ≠ 8) (h2 : a ≠ 9) : (f3_readsCondition T σ x1 x2).2 a = σ a := by
  unfold f3_readsCondition
  (repeat' split) <;> (first | rfl | (simp only [sp_n, su_n, ne_eq, not_false_eq_true, h0, h1, h2, w_f1_add, w_f7_fails, w_f7_pass, w_f7_peek, hT, w_f3_readsCondition_c13]; done) | (simp [sp_n, su_n, ne_eq, not_false_eq_true, h0, h1, h2, w_f1_add, w_f7_fails, w_f7_pass, w_f7_peek, hT, w_f3_readsCondition_c13]; done))
set_option maxHeartbeats 4000000 in
set_option maxRecDepth 100000 in
theorem c3_readsCondition_c13 {l : Launch} {p : Program} {e : Env} {s : State} {m : MethodId} {args : Array Value} {below : List Frame} {meth : Method} {c : Code} {G : GT} (X : CX p s m args meth c cX3_readsCondition RX3 4 (some .boolean) G) {T : SI → Int32 → Bool → Bool × SI} {D : Nat} (hT : ∀ (σ : SI) (τ : SL) (x1 : Int32) (x2 : Bool), ¬ x1 < 0 → (Int32.toInt 6 - Int32.toInt x1).toNat < D → Mc l yX3_readsTruth cX3_readsTruth 4 (some .boolean) (40 + 3 * D + 2) G [.ref (G.2.1 7), .int x1, .int (b2i x2)] σ τ (Qi G (Ei (b2i (T σ x1 x2).1) (T σ x1 x2).2 τ))) {E : Bool × SI} (τ : SL) (x1 : Int32) (x2 : Bool) (hx0 : ¬ x1 < 0) (hx : (Int32.toInt 6 - Int32.toInt x1).toNat < D) : ∀ (fu : Nat) (v3 : Int32) (σ : SI) (H : Heap) (locs : List Loc) (ls : Array Slot), IX G s H locs σ τ → lv_has ls 4 [(0, .ref (G.2.1 7)), (1, .int x1), (2, .int (b2i x2)), (3, .int v3)] → (Int32.toInt (240 : Int32) - Int32.toInt v3).toNat < fu → E = (f3_readsCondition_c13 T x1 x2 fu v3 σ) → W p l e (rmN (40 + 3 * D + 3)) s m args below meth c H locs 0 0 (MQ below ((Qi G (Ei (b2i E.1) E.2 τ)) s.heap.size) args s 0 0 (AW G s.heap.size)) (F0 m 13 ls []) := by
  intro fu
  induction fu with
  | zero =>
    intro v3 σ H locs ls I hl  hm hE
    exact absurd hm (Nat.not_lt_zero _)
  | succ fu ih =>
    intro v3 σ H locs ls I hl  hm hE
    refine lv_iload_n X.1 X.2.1 dX3_readsCondition_13 rfl (lv_at hl 3 rfl) ?_
    refine lv_sipush (v := 240) X.1 X.2.1 dX3_readsCondition_14 (by decide) ?_
    refine lv_icmp_ge (tgt := 67) X.1 X.2.1 dX3_readsCondition_17 (by decide) (fun c_2 => ?_) (fun c_2 => ?_)
    · skip
      refine lv_aload_n X.1 X.2.1 dX3_readsCondition_67 rfl (lv_at hl 0 rfl) ?_
      refine g3_0 X I (k := 7) (by decide) rfl lf_X3_9 dX3_readsCondition_68 ?_
      refine r_ei I (r_runV X I pk_X7_fails (c7_fails l G _ _) lm_X3_46 (by decide) (cl_7 rfl) rfl rfl rfl hl.1 rfl (Nat.le_of_ble_eq_true rfl) dX3_readsCondition_71 (hr_le (by omega) (by decide)) ⟨Nat.le_refl 0, Nat.le_refl 0⟩) (fun H locs I => ?_)
      have h9 := hE.trans ((if_pos c_2).trans rfl)
      exact r_zret X I (b2i_nar _) (e_i (congrArg b2i (congrArg Prod.fst h9)).symm (congrArg Prod.snd h9).symm rfl) dX3_readsCondition_74
    · skip
      refine lv_aload_n X.1 X.2.1 dX3_readsCondition_20 rfl (lv_at hl 0 rfl) ?_
      refine g3_0 X I (k := 7) (by decide) rfl lf_X3_9 dX3_readsCondition_21 ?_
      refine r_ei I (r_runV X I pk_X7_peek (c7_peek l G _ _) lm_X3_38 (by decide) (cl_7 rfl) rfl rfl rfl hl.1 rfl (Nat.le_of_ble_eq_true rfl) dX3_readsCondition_24 (hr_le (by omega) (by decide)) ⟨Nat.le_refl 0, Nat.le_refl 0⟩) (fun H locs I => ?_)
      refine lv_bipush (v := 124) X.1 X.2.1 dX3_readsCondition_27 (by decide) ?_
      refine lv_icmp_eq (tgt := 34) X.1 X.2.1 dX3_readsCondition_29 (by decide) (fun c_3 => ?_) (fun c_3 => ?_)
      · skip
        refine lv_aload_n X.1 X.2.1 dX3_readsCondition_34 rfl (lv_at hl 0 rfl) ?_
        refine g3_0 X I (k := 7) (by decide) rfl lf_X3_9 dX3_readsCondition_35 ?_
        refine r_ev I (r_runV X I pk_X7_pass (c7_pass l G _ _) lm_X3_68 (by decide) (cl_7 rfl) rfl rfl rfl hl.1 rfl (Nat.le_of_ble_eq_true rfl) dX3_readsCondition_38 (hr_le (by omega) (by decide)) ⟨Nat.le_refl 0, Nat.le_refl 0⟩) (fun H locs I => ?_)
        refine lv_aload_n X.1 X.2.1 dX3_readsCondition_41 rfl (lv_at hl 0 rfl) ?_
        refine lv_iload_n X.1 X.2.1 dX3_readsCondition_42 rfl (lv_at hl 1 rfl) ?_
        refine lv_iconst (v := 0) X.1 X.2.1 dX3_readsCondition_43 (by decide) ?_
        refine r_ei I (r_runV X I pk_X3_readsTruth (hT _ _ _ false (hx0) (hx)) lm_X3_65 (by decide) (cl_3 rfl) rfl rfl rfl hl.1 rfl (Nat.le_of_ble_eq_true rfl) dX3_readsCondition_44 (hr_le (by omega) (by decide)) ⟨Nat.le_refl 0, Nat.le_refl 0⟩) (fun H locs I => ?_)
        refine lv_if_ne (tgt := 52) X.1 X.2.1 dX3_readsCondition_47 (by decide) (fun c_4 => ?_) (fun c_4 => ?_)
        · skip
          refine lv_aload_n X.1 X.2.1 dX3_readsCondition_52 rfl (lv_at hl 0 rfl) ?_
          refine g3_1 X I (k := 7) (by decide) rfl lf_X3_18 dX3_readsCondition_53 ?_
          refine lv_bipush (v := (-124)) X.1 X.2.1 dX3_readsCondition_56 (by decide) ?_
          refine r_ev I (r_runV X I pk_X1_add (c1_add l G (k := 8) ⟨by decide, rfl, rfl⟩ _ _ _) lm_X3_34 (by decide) (cl_1 rfl) rfl rfl rfl hl.1 rfl (Nat.le_of_ble_eq_true rfl) dX3_readsCondition_58 (hr_le (by omega) (by decide)) ⟨Nat.le_refl 0, Nat.le_refl 0⟩) (fun H locs I => ?_)
          refine lv_iinc (v := _ + 1) (lv' := [(3, .int _), (0, .ref _), (1, .int _), (2, .int _)]) X.1 X.2.1 dX3_readsCondition_61 hl (k := 3) rfl rfl (by decide) rfl (fun ls hl => ?_)
          refine lv_goto (tgt := 13) X.1 X.2.1 dX3_readsCondition_64 (by decide) ?_
          exact ih _ _ _ _ _ I (lv_sub hl [1, 2, 3, 0] rfl) (Nat.lt_of_lt_of_le (up_dec c_2) (Nat.le_of_lt_succ hm)) (hE.trans ((if_neg c_2).trans ((if_pos c_3).trans ((if_pos (b2i_y c_4)).trans rfl))))
        · skip
          refine lv_iconst (v := 0) X.1 X.2.1 dX3_readsCondition_50 (by decide) ?_
          have h9 := hE.trans ((if_neg c_2).trans ((if_pos c_3).trans ((if_neg (b2i_n c_4)).trans rfl)))
          exact r_zret X I rfl (e_i (congrArg b2i (congrArg Prod.fst h9)).symm (congrArg Prod.snd h9).symm rfl) dX3_readsCondition_51
      · skip
        refine lv_iconst (v := 1) X.1 X.2.1 dX3_readsCondition_32 (by decide) ?_
        have h9 := hE.trans ((if_neg c_2).trans ((if_neg c_3).trans rfl))
        exact r_zret X I rfl (e_i (congrArg b2i (congrArg Prod.fst h9)).symm (congrArg Prod.snd h9).symm rfl) dX3_readsCondition_33
set_option maxHeartbeats 4000000 in
set_option maxRecDepth 100000 in
theorem c3_readsCondition (l : Launch) (G : GT) {T : SI → Int32 → Bool → Bool × SI} {D : Nat} (hT : ∀ (σ : SI) (τ : SL) (x1 : Int32) (x2 : Bool), ¬ x1 < 0 → (Int32.toInt 6 - Int32.toInt x1).toNat < D → Mc l yX3_readsTruth cX3_readsTruth 4 (some .boolean) (40 + 3 * D + 2) G [.ref (G.2.1 7), .int x1, .int (b2i x2)] σ τ (Qi G (Ei (b2i (T σ x1 x2).1) (T σ x1 x2).2 τ))) (σ : SI) (τ : SL) (x1 : Int32) (x2 : Bool) (hx0 : ¬ x1 < 0) (hx : (Int32.toInt 6 - Int32.toInt x1).toNat < D) : Mc l yX3_readsCondition cX3_readsCondition 4 (some .boolean) (40 + 3 * D + 3) G [.ref (G.2.1 7), .int x1, .int (b2i x2)] σ τ (Qi G (Ei (b2i (f3_readsCondition T σ x1 x2).1) (f3_readsCondition T σ x1 x2).2 τ)) := by
  refine m_start (by decide +kernel) (Nat.le_of_ble_eq_true rfl) rfl (fun p e s m args below meth c ls X I hl => ?_)
  have hl : lv_has ls 4 [(0, .ref (G.2.1 7)), (1, .int x1), (2, .int (b2i x2))] := hl
  obtain ⟨E, hE⟩ : ∃ E, E = (f3_readsCondition T σ x1 x2) := ⟨_, rfl⟩
  rw [← hE]
  refine lv_aload_n X.1 X.2.1 dX3_readsCondition_0 rfl (lv_at hl 0 rfl) ?_
  refine lv_iload_n X.1 X.2.1 dX3_readsCondition_1 rfl (lv_at hl 1 rfl) ?_
  refine lv_iload_n X.1 X.2.1 dX3_readsCondition_2 rfl (lv_at hl 2 rfl) ?_
  refine r_ei I (r_runV X I pk_X3_readsTruth (hT _ _ _ _ (hx0) (hx)) lm_X3_65 (by decide) (cl_3 rfl) rfl rfl rfl hl.1 rfl (Nat.le_of_ble_eq_true rfl) dX3_readsCondition_3 (hr_le (by omega) (by decide)) ⟨Nat.le_refl 0, Nat.le_refl 0⟩) (fun H locs I => ?_)
  refine lv_if_ne (tgt := 11) X.1 X.2.1 dX3_readsCondition_6 (by decide) (fun c_1 => ?_) (fun c_1 => ?_)
  · skip
    refine lv_iconst (v := 0) X.1 X.2.1 dX3_readsCondition_11 (by decide) ?_
    refine lv_istore_n (lv' := [(3, .int _), (0, .ref _), (1, .int _), (2, .int _)]) X.1 X.2.1 dX3_readsCondition_12 rfl hl (by decide) rfl (fun ls hl => ?_)
    exact c3_readsCondition_c13 X hT _ _ _ hx0 hx _ _ _ _ _ _ I (lv_sub hl [1, 2, 3, 0] rfl) (Nat.lt_succ_self _) (hE.trans ((if_pos (b2i_y c_1)).trans rfl))
  · skip
    refine lv_iconst (v := 0) X.1 X.2.1 dX3_readsCondition_9 (by decide) ?_
    have h9 := hE.trans ((if_neg (b2i_n c_1)).trans rfl)
    exact r_zret X I rfl (e_i (congrArg b2i (congrArg Prod.fst h9)).symm (congrArg Prod.snd h9).symm rfl) dX3_readsCondition_10
def fUnitD : Nat → SI → Int32 → Bool × SI
  | 0 => fun σ _ => (false, σ)
  | D + 1 => fun σ x => f3_readsUnit (fun σ x b => f3_readsCondition (f3_readsTruth (fUnitD D)) σ x b) (fUnitD D) σ x
theorem cUnitD (l : Launch) (G : GT) : ∀ (D : Nat) (σ : SI) (τ : SL) (x1 : Int32), ¬ x1 < 0 → (Int32.toInt 6 - Int32.toInt x1).toNat < D → Mc l yX3_readsUnit cX3_readsUnit 3 (some .boolean) (40 + 3 * D + 1) G [.ref (G.2.1 7), .int x1] σ τ (Qi G (Ei (b2i (fUnitD D σ x1).1) (fUnitD D σ x1).2 τ))
  | 0, _, _, _, _, h => absurd h (Nat.not_lt_zero _)
  | D + 1, σ, τ, x, h0, h => c3_readsUnit l G (fun σ τ x h0 h => cUnitD l G D σ τ x h0 h) (fun σ τ x b h0 h => c3_readsCondition l G (fun σ τ x b h0 h => c3_readsTruth l G (fun σ τ x h0 h => cUnitD l G D σ τ x h0 h) σ τ x b h0 h) σ τ x b h0 h) σ τ x h0 h
def f3_cond (σ : SI) (x : Int32) (b : Bool) : Bool × SI := f3_readsCondition (f3_readsTruth (fUnitD 7)) σ x b
theorem c3_cond (l : Launch) (G : GT) (σ : SI) (τ : SL) (x1 : Int32) (x2 : Bool) (hx0 : ¬ x1 < 0) : Mc l yX3_readsCondition cX3_readsCondition 4 (some .boolean) 64 G [.ref (G.2.1 7), .int x1, .int (b2i x2)] σ τ (Qi G (Ei (b2i (f3_cond σ x1 x2).1) (f3_cond σ x1 x2).2 τ)) :=
  c3_readsCondition l G (fun σ τ x b h0 h => c3_readsTruth l G (fun σ τ x h0 h => cUnitD l G 7 σ τ x h0 h) σ τ x b h0 h) σ τ x1 x2 hx0 (six_lt hx0)
theorem w_fUnitD : ∀ (D : Nat) (σ : SI) (x1 : Int32) (b : Nat), b ≠ 1 → b ≠ 8 → b ≠ 9 → (fUnitD D σ x1).2 b = σ b
  | 0, _, _, _, _, _, _ => rfl
  | D + 1, σ, x, b, h0, h1, h2 => w_f3_readsUnit (fun σ x b h0 h1 h2 => w_fUnitD D σ x b h0 h1 h2) (fun σ x t b h0 h1 h2 => w_f3_readsCondition (fun σ x t b h0 h1 h2 => w_f3_readsTruth (fun σ x b h0 h1 h2 => w_fUnitD D σ x b h0 h1 h2) σ x t b h0 h1 h2) σ x t b h0 h1 h2) σ x b h0 h1 h2
theorem w_f3_cond (σ : SI) (x1 : Int32) (x2 : Bool) (b : Nat) (h0 : b ≠ 1) (h1 : b ≠ 8) (h2 : b ≠ 9) : (f3_cond σ x1 x2).2 b = σ b := w_f3_readsCondition (fun σ x t b h0 h1 h2 => w_f3_readsTruth (fun σ x b h0 h1 h2 => w_fUnitD 7 σ x b h0 h1 h2) σ x t b h0 h1 h2) σ x1 x2 b h0 h1 h2
def f3_readsWorth (σ : SI) : Bool × SI := let r0 := (f7_takes σ (63 : Int32)); if r0.1 = true then (let s1 := (f1_add 8 r0.2 (-63 : Int32)); let r2 := (f3_sum s1 (0 : Int32)); (r2.1, r2.2)) else (false, r0.2)
theorem w_f3_readsWorth (σ : SI) (a : Nat) (h0 : a ≠ 1) (h1 : a ≠ 8) (h2 : a ≠ 9) : (f3_readsWorth σ).2 a = σ a := by
  unfold f3_readsWorth
  (repeat' split) <;> (first | rfl | (simp only [sp_n, su_n, ne_eq, not_false_eq_true, h0, h1, h2, w_f1_add, w_f3_sum, w_f7_takes]; done) | (simp [sp_n, su_n, ne_eq, not_false_eq_true, h0, h1, h2, w_f1_add, w_f3_sum, w_f7_takes]; done))
set_option maxHeartbeats 4000000 in
set_option maxRecDepth 100000 in
theorem c3_readsWorth (l : Launch) (G : GT) (σ : SI) (τ : SL) : Mc l yX3_readsWorth cX3_readsWorth 1 (some .boolean) 32 G [.ref (G.2.1 7)] σ τ (Qi G (Ei (b2i (f3_readsWorth σ).1) (f3_readsWorth σ).2 τ)) := by
  refine m_start (by decide +kernel) (Nat.le_of_ble_eq_true rfl) rfl (fun p e s m args below meth c ls X I hl => ?_)
  have hl : lv_has ls 1 [(0, .ref (G.2.1 7))] := hl
  obtain ⟨E, hE⟩ : ∃ E, E = (f3_readsWorth σ) := ⟨_, rfl⟩
  rw [← hE]
  refine lv_aload_n X.1 X.2.1 dX3_readsWorth_0 rfl (lv_at hl 0 rfl) ?_
  refine g3_0 X I (k := 7) (by decide) rfl lf_X3_9 dX3_readsWorth_1 ?_
  refine lv_bipush (v := 63) X.1 X.2.1 dX3_readsWorth_4 (by decide) ?_
  refine r_ei I (r_runV X I pk_X7_takes (c7_takes l G _ _ _) lm_X3_42 (by decide) (cl_7 rfl) rfl rfl rfl hl.1 rfl (Nat.le_of_ble_eq_true rfl) dX3_readsWorth_6 ⟨Nat.le_of_ble_eq_true rfl, Nat.le_of_ble_eq_true rfl⟩ ⟨Nat.le_refl 0, Nat.le_refl 0⟩) (fun H locs I => ?_)
  refine lv_if_ne (tgt := 14) X.1 X.2.1 dX3_readsWorth_9 (by decide) (fun c_1 => ?_) (fun c_1 => ?_)
  · skip
    refine lv_aload_n X.1 X.2.1 dX3_readsWorth_14 rfl (lv_at hl 0 rfl) ?_
    refine g3_1 X I (k := 7) (by decide) rfl lf_X3_18 dX3_readsWorth_15 ?_
    refine lv_bipush (v := (-63)) X.1 X.2.1 dX3_readsWorth_18 (by decide) ?_
    refine r_ev I (r_runV X I pk_X1_add (c1_add l G (k := 8) ⟨by decide, rfl, rfl⟩ _ _ _) lm_X3_34 (by decide) (cl_1 rfl) rfl rfl rfl hl.1 rfl (Nat.le_of_ble_eq_true rfl) dX3_readsWorth_20 ⟨Nat.le_of_ble_eq_true rfl, Nat.le_of_ble_eq_true rfl⟩ ⟨Nat.le_refl 0, Nat.le_refl 0⟩) (fun H locs I => ?_)
    refine lv_aload_n X.1 X.2.1 dX3_readsWorth_23 rfl (lv_at hl 0 rfl) ?_
    refine lv_iconst (v := 0) X.1 X.2.1 dX3_readsWorth_24 (by decide) ?_
    refine r_ei I (r_runV X I pk_X3_readsSum (c3_sum l G _ _ _ (by decide)) lm_X3_56 (by decide) (cl_3 rfl) rfl rfl rfl hl.1 rfl (Nat.le_of_ble_eq_true rfl) dX3_readsWorth_25 ⟨Nat.le_of_ble_eq_true rfl, Nat.le_of_ble_eq_true rfl⟩ ⟨Nat.le_refl 0, Nat.le_refl 0⟩) (fun H locs I => ?_)
    have h9 := hE.trans ((if_pos (b2i_y c_1)).trans rfl)
    exact r_zret X I (b2i_nar _) (e_i (congrArg b2i (congrArg Prod.fst h9)).symm (congrArg Prod.snd h9).symm rfl) dX3_readsWorth_28
  · skip
    refine lv_iconst (v := 0) X.1 X.2.1 dX3_readsWorth_12 (by decide) ?_
    have h9 := hE.trans ((if_neg (b2i_n c_1)).trans rfl)
    exact r_zret X I rfl (e_i (congrArg b2i (congrArg Prod.fst h9)).symm (congrArg Prod.snd h9).symm rfl) dX3_readsWorth_13
def f3_readsClause (σ : SI) : Bool × SI := let r0 := (f7_takes σ (121 : Int32)); if r0.1 = true then (let r1 := (f7_takes r0.2 (58 : Int32)); if r1.1 = true then (let r2 := (f7_peek r1.2); if r2.1 = (33 : Int32) then (let r3 := (f3_cond r2.2 (0 : Int32) false); if r3.1 = true then (let r4 := (f3_readsWorth r3.2); if r4.1 = true then (true, r4.2) else (false, r4.2)) else (false, r3.2)) else (if r2.1 = (40 : Int32) then (let r10 := (f3_cond r2.2 (0 : Int32) false); if r10.1 = true then (let r11 := (f3_readsWorth r10.2); if r11.1 = true then (true, r11.2) else (false, r11.2)) else (false, r10.2)) else (let r5 := (f3_sum r2.2 (0 : Int32)); if r5.1 = true then (let r6 := (f7_peek r5.2); if (f3_isRelation r6.1) = true then (let r7 := (f3_readsRelation r6.2 (0 : Int32)); if r7.1 = true then (let r8 := (f3_cond r7.2 (0 : Int32) true); if r8.1 = true then (let r9 := (f3_readsWorth r8.2); if r9.1 = true then (true, r9.2) else (false, r9.2)) else (false, r8.2)) else (false, r7.2)) else (true, r6.2)) else (false, r5.2)))) else (false, r1.2)) else (false, r0.2)
theorem w_f3_readsClause (σ : SI) (a : Nat) (h0 : a ≠ 1) (h1 : a ≠ 8) (h2 : a ≠ 9) : (f3_readsClause σ).2 a = σ a := by
  unfold f3_readsClause
  (repeat' split) <;> (first | rfl | (simp only [sp_n, su_n, ne_eq, not_false_eq_true, h0, h1, h2, w_f3_cond, w_f3_readsRelation, w_f3_readsWorth, w_f3_sum, w_f7_peek, w_f7_takes]; done) | (simp [sp_n, su_n, ne_eq, not_false_eq_true, h0, h1, h2, w_f3_cond, w_f3_readsRelation, w_f3_readsWorth, w_f3_sum, w_f7_peek, w_f7_takes]; done))
set_option maxHeartbeats 4000000 in
set_option maxRecDepth 100000 in
theorem c3_readsClause (l : Launch) (G : GT) (σ : SI) (τ : SL) : Mc l yX3_readsClause cX3_readsClause 2 (some .boolean) 65 G [.ref (G.2.1 7)] σ τ (Qi G (Ei (b2i (f3_readsClause σ).1) (f3_readsClause σ).2 τ)) := by
  refine m_start (by decide +kernel) (Nat.le_of_ble_eq_true rfl) rfl (fun p e s m args below meth c ls X I hl => ?_)
  have hl : lv_has ls 2 [(0, .ref (G.2.1 7))] := hl
  obtain ⟨E, hE⟩ : ∃ E, E = (f3_readsClause σ) := ⟨_, rfl⟩
  rw [← hE]
  refine lv_aload_n X.1 X.2.1 dX3_readsClause_0 rfl (lv_at hl 0 rfl) ?_
  refine g3_0 X I (k := 7) (by decide) rfl lf_X3_9 dX3_readsClause_1 ?_
  refine lv_bipush (v := 121) X.1 X.2.1 dX3_readsClause_4 (by decide) ?_
  refine r_ei I (r_runV X I pk_X7_takes (c7_takes l G _ _ _) lm_X3_42 (by decide) (cl_7 rfl) rfl rfl rfl hl.1 rfl (Nat.le_of_ble_eq_true rfl) dX3_readsClause_6 ⟨Nat.le_of_ble_eq_true rfl, Nat.le_of_ble_eq_true rfl⟩ ⟨Nat.le_refl 0, Nat.le_refl 0⟩) (fun H locs I => ?_)
  refine lv_if_eq (tgt := 24) X.1 X.2.1 dX3_readsClause_9 (by decide) (fun c_1 => ?_) (fun c_1 => ?_)
  · skip
    refine lv_iconst (v := 0) X.1 X.2.1 dX3_readsClause_24 (by decide) ?_
    have h9 := hE.trans ((if_neg (b2i_n c_1)).trans rfl)
    exact r_zret X I rfl (e_i (congrArg b2i (congrArg Prod.fst h9)).symm (congrArg Prod.snd h9).symm rfl) dX3_readsClause_25
  · skip
    refine lv_aload_n X.1 X.2.1 dX3_readsClause_12 rfl (lv_at hl 0 rfl) ?_
    refine g3_0 X I (k := 7) (by decide) rfl lf_X3_9 dX3_readsClause_13 ?_
    refine lv_bipush (v := 58) X.1 X.2.1 dX3_readsClause_16 (by decide) ?_
    refine r_ei I (r_runV X I pk_X7_takes (c7_takes l G _ _ _) lm_X3_42 (by decide) (cl_7 rfl) rfl rfl rfl hl.1 rfl (Nat.le_of_ble_eq_true rfl) dX3_readsClause_18 ⟨Nat.le_of_ble_eq_true rfl, Nat.le_of_ble_eq_true rfl⟩ ⟨Nat.le_refl 0, Nat.le_refl 0⟩) (fun H locs I => ?_)
    refine lv_if_ne (tgt := 26) X.1 X.2.1 dX3_readsClause_21 (by decide) (fun c_2 => ?_) (fun c_2 => ?_)
    · skip
      refine lv_aload_n X.1 X.2.1 dX3_readsClause_26 rfl (lv_at hl 0 rfl) ?_
      refine g3_0 X I (k := 7) (by decide) rfl lf_X3_9 dX3_readsClause_27 ?_
      refine r_ei I (r_runV X I pk_X7_peek (c7_peek l G _ _) lm_X3_38 (by decide) (cl_7 rfl) rfl rfl rfl hl.1 rfl (Nat.le_of_ble_eq_true rfl) dX3_readsClause_30 ⟨Nat.le_of_ble_eq_true rfl, Nat.le_of_ble_eq_true rfl⟩ ⟨Nat.le_refl 0, Nat.le_refl 0⟩) (fun H locs I => ?_)
      refine lv_istore_n (lv' := [(1, .int _), (0, .ref _)]) X.1 X.2.1 dX3_readsClause_33 rfl hl (by decide) rfl (fun ls hl => ?_)
      refine lv_iload_n X.1 X.2.1 dX3_readsClause_34 rfl (lv_at hl 0 rfl) ?_
      refine lv_bipush (v := 33) X.1 X.2.1 dX3_readsClause_35 (by decide) ?_
      refine lv_icmp_eq (tgt := 46) X.1 X.2.1 dX3_readsClause_37 (by decide) (fun c_3 => ?_) (fun c_3 => ?_)
      · skip
        refine lv_aload_n X.1 X.2.1 dX3_readsClause_46 rfl (lv_at hl 1 rfl) ?_
        refine lv_iconst (v := 0) X.1 X.2.1 dX3_readsClause_47 (by decide) ?_
        refine lv_iconst (v := 0) X.1 X.2.1 dX3_readsClause_48 (by decide) ?_
        refine r_ei I (r_runV X I pk_X3_readsCondition (c3_cond l G _ _ _ false (by decide)) lm_X3_49 (by decide) (cl_3 rfl) rfl rfl rfl hl.1 rfl (Nat.le_of_ble_eq_true rfl) dX3_readsClause_49 ⟨Nat.le_of_ble_eq_true rfl, Nat.le_of_ble_eq_true rfl⟩ ⟨Nat.le_refl 0, Nat.le_refl 0⟩) (fun H locs I => ?_)
        refine lv_if_eq (tgt := 66) X.1 X.2.1 dX3_readsClause_52 (by decide) (fun c_4 => ?_) (fun c_4 => ?_)
        · skip
          refine lv_iconst (v := 0) X.1 X.2.1 dX3_readsClause_66 (by decide) ?_
          have h9 := hE.trans ((if_pos (b2i_y c_1)).trans ((if_pos (b2i_y c_2)).trans ((if_pos c_3).trans ((if_neg (b2i_n c_4)).trans rfl))))
          exact r_zret X I rfl (e_i (congrArg b2i (congrArg Prod.fst h9)).symm (congrArg Prod.snd h9).symm rfl) dX3_readsClause_67
        · skip
          refine lv_aload_n X.1 X.2.1 dX3_readsClause_55 rfl (lv_at hl 1 rfl) ?_
          refine r_ei I (r_runV X I pk_X3_readsWorth (c3_readsWorth l G _ _) lm_X3_53 (by decide) (cl_3 rfl) rfl rfl rfl hl.1 rfl (Nat.le_of_ble_eq_true rfl) dX3_readsClause_56 ⟨Nat.le_of_ble_eq_true rfl, Nat.le_of_ble_eq_true rfl⟩ ⟨Nat.le_refl 0, Nat.le_refl 0⟩) (fun H locs I => ?_)
          refine lv_if_eq (tgt := 66) X.1 X.2.1 dX3_readsClause_59 (by decide) (fun c_5 => ?_) (fun c_5 => ?_)
          · skip
            refine lv_iconst (v := 0) X.1 X.2.1 dX3_readsClause_66 (by decide) ?_
            have h9 := hE.trans ((if_pos (b2i_y c_1)).trans ((if_pos (b2i_y c_2)).trans ((if_pos c_3).trans ((if_pos (b2i_y c_4)).trans ((if_neg (b2i_n c_5)).trans rfl)))))
            exact r_zret X I rfl (e_i (congrArg b2i (congrArg Prod.fst h9)).symm (congrArg Prod.snd h9).symm rfl) dX3_readsClause_67
          · skip
            refine lv_iconst (v := 1) X.1 X.2.1 dX3_readsClause_62 (by decide) ?_
            refine lv_goto (tgt := 67) X.1 X.2.1 dX3_readsClause_63 (by decide) ?_
            have h9 := hE.trans ((if_pos (b2i_y c_1)).trans ((if_pos (b2i_y c_2)).trans ((if_pos c_3).trans ((if_pos (b2i_y c_4)).trans ((if_pos (b2i_y c_5)).trans rfl)))))
            exact r_zret X I rfl (e_i (congrArg b2i (congrArg Prod.fst h9)).symm (congrArg Prod.snd h9).symm rfl) dX3_readsClause_67
      · skip
        refine lv_iload_n X.1 X.2.1 dX3_readsClause_40 rfl (lv_at hl 0 rfl) ?_
        refine lv_bipush (v := 40) X.1 X.2.1 dX3_readsClause_41 (by decide) ?_
        refine lv_icmp_ne (tgt := 68) X.1 X.2.1 dX3_readsClause_43 (by decide) (fun c_6 => ?_) (fun c_6 => ?_)
        · skip
          refine lv_aload_n X.1 X.2.1 dX3_readsClause_68 rfl (lv_at hl 1 rfl) ?_
          refine lv_iconst (v := 0) X.1 X.2.1 dX3_readsClause_69 (by decide) ?_
          refine r_ei I (r_runV X I pk_X3_readsSum (c3_sum l G _ _ _ (by decide)) lm_X3_56 (by decide) (cl_3 rfl) rfl rfl rfl hl.1 rfl (Nat.le_of_ble_eq_true rfl) dX3_readsClause_70 ⟨Nat.le_of_ble_eq_true rfl, Nat.le_of_ble_eq_true rfl⟩ ⟨Nat.le_refl 0, Nat.le_refl 0⟩) (fun H locs I => ?_)
          refine lv_if_ne (tgt := 78) X.1 X.2.1 dX3_readsClause_73 (by decide) (fun c_7 => ?_) (fun c_7 => ?_)
          · skip
            refine lv_aload_n X.1 X.2.1 dX3_readsClause_78 rfl (lv_at hl 1 rfl) ?_
            refine g3_0 X I (k := 7) (by decide) rfl lf_X3_9 dX3_readsClause_79 ?_
            refine r_ei I (r_runV X I pk_X7_peek (c7_peek l G _ _) lm_X3_38 (by decide) (cl_7 rfl) rfl rfl rfl hl.1 rfl (Nat.le_of_ble_eq_true rfl) dX3_readsClause_82 ⟨Nat.le_of_ble_eq_true rfl, Nat.le_of_ble_eq_true rfl⟩ ⟨Nat.le_refl 0, Nat.le_refl 0⟩) (fun H locs I => ?_)
            refine r_ei I (r_runS X I pk_X3_isRelation (c3_isRelation l G _ _ _) lm_X3_59 rfl hl.1 rfl (Nat.le_of_ble_eq_true rfl) dX3_readsClause_85 ⟨Nat.le_of_ble_eq_true rfl, Nat.le_of_ble_eq_true rfl⟩ ⟨Nat.le_refl 0, Nat.le_refl 0⟩) (fun H locs I => ?_)
            refine lv_if_ne (tgt := 93) X.1 X.2.1 dX3_readsClause_88 (by decide) (fun c_8 => ?_) (fun c_8 => ?_)
            · skip
              refine lv_aload_n X.1 X.2.1 dX3_readsClause_93 rfl (lv_at hl 1 rfl) ?_
              refine lv_iconst (v := 0) X.1 X.2.1 dX3_readsClause_94 (by decide) ?_
              refine r_ei I (r_runV X I pk_X3_readsRelation (c3_readsRelation l G _ _ _ (by decide)) lm_X3_62 (by decide) (cl_3 rfl) rfl rfl rfl hl.1 rfl (Nat.le_of_ble_eq_true rfl) dX3_readsClause_95 ⟨Nat.le_of_ble_eq_true rfl, Nat.le_of_ble_eq_true rfl⟩ ⟨Nat.le_refl 0, Nat.le_refl 0⟩) (fun H locs I => ?_)
              refine lv_if_eq (tgt := 121) X.1 X.2.1 dX3_readsClause_98 (by decide) (fun c_9 => ?_) (fun c_9 => ?_)
              · skip
                refine lv_iconst (v := 0) X.1 X.2.1 dX3_readsClause_121 (by decide) ?_
                have h9 := hE.trans ((if_pos (b2i_y c_1)).trans ((if_pos (b2i_y c_2)).trans ((if_neg c_3).trans ((if_neg c_6).trans ((if_pos (b2i_y c_7)).trans ((if_pos (b2i_y c_8)).trans ((if_neg (b2i_n c_9)).trans rfl)))))))
                exact r_zret X I rfl (e_i (congrArg b2i (congrArg Prod.fst h9)).symm (congrArg Prod.snd h9).symm rfl) dX3_readsClause_122
              · skip
                refine lv_aload_n X.1 X.2.1 dX3_readsClause_101 rfl (lv_at hl 1 rfl) ?_
                refine lv_iconst (v := 0) X.1 X.2.1 dX3_readsClause_102 (by decide) ?_
                refine lv_iconst (v := 1) X.1 X.2.1 dX3_readsClause_103 (by decide) ?_
                refine r_ei I (r_runV X I pk_X3_readsCondition (c3_cond l G _ _ _ true (by decide)) lm_X3_49 (by decide) (cl_3 rfl) rfl rfl rfl hl.1 rfl (Nat.le_of_ble_eq_true rfl) dX3_readsClause_104 ⟨Nat.le_of_ble_eq_true rfl, Nat.le_of_ble_eq_true rfl⟩ ⟨Nat.le_refl 0, Nat.le_refl 0⟩) (fun H locs I => ?_)
                refine lv_if_eq (tgt := 121) X.1 X.2.1 dX3_readsClause_107 (by decide) (fun c_10 => ?_) (fun c_10 => ?_)
                · skip
                  refine lv_iconst (v := 0) X.1 X.2.1 dX3_readsClause_121 (by decide) ?_
                  have h9 := hE.trans ((if_pos (b2i_y c_1)).trans ((if_pos (b2i_y c_2)).trans ((if_neg c_3).trans ((if_neg c_6).trans ((if_pos (b2i_y c_7)).trans ((if_pos (b2i_y c_8)).trans ((if_pos (b2i_y c_9)).trans ((if_neg (b2i_n c_10)).trans rfl))))))))
                  exact r_zret X I rfl (e_i (congrArg b2i (congrArg Prod.fst h9)).symm (congrArg Prod.snd h9).symm rfl) dX3_readsClause_122
                · skip
                  refine lv_aload_n X.1 X.2.1 dX3_readsClause_110 rfl (lv_at hl 1 rfl) ?_
                  refine r_ei I (r_runV X I pk_X3_readsWorth (c3_readsWorth l G _ _) lm_X3_53 (by decide) (cl_3 rfl) rfl rfl rfl hl.1 rfl (Nat.le_of_ble_eq_true rfl) dX3_readsClause_111 ⟨Nat.le_of_ble_eq_true rfl, Nat.le_of_ble_eq_true rfl⟩ ⟨Nat.le_refl 0, Nat.le_refl 0⟩) (fun H locs I => ?_)
                  refine lv_if_eq (tgt := 121) X.1 X.2.1 dX3_readsClause_114 (by decide) (fun c_11 => ?_) (fun c_11 => ?_)
                  · skip
                    refine lv_iconst (v := 0) X.1 X.2.1 dX3_readsClause_121 (by decide) ?_
                    have h9 := hE.trans ((if_pos (b2i_y c_1)).trans ((if_pos (b2i_y c_2)).trans ((if_neg c_3).trans ((if_neg c_6).trans ((if_pos (b2i_y c_7)).trans ((if_pos (b2i_y c_8)).trans ((if_pos (b2i_y c_9)).trans ((if_pos (b2i_y c_10)).trans ((if_neg (b2i_n c_11)).trans rfl)))))))))
                    exact r_zret X I rfl (e_i (congrArg b2i (congrArg Prod.fst h9)).symm (congrArg Prod.snd h9).symm rfl) dX3_readsClause_122
                  · skip
                    refine lv_iconst (v := 1) X.1 X.2.1 dX3_readsClause_117 (by decide) ?_
                    refine lv_goto (tgt := 122) X.1 X.2.1 dX3_readsClause_118 (by decide) ?_
                    have h9 := hE.trans ((if_pos (b2i_y c_1)).trans ((if_pos (b2i_y c_2)).trans ((if_neg c_3).trans ((if_neg c_6).trans ((if_pos (b2i_y c_7)).trans ((if_pos (b2i_y c_8)).trans ((if_pos (b2i_y c_9)).trans ((if_pos (b2i_y c_10)).trans ((if_pos (b2i_y c_11)).trans rfl)))))))))
                    exact r_zret X I rfl (e_i (congrArg b2i (congrArg Prod.fst h9)).symm (congrArg Prod.snd h9).symm rfl) dX3_readsClause_122
            · skip
              refine lv_iconst (v := 1) X.1 X.2.1 dX3_readsClause_91 (by decide) ?_
              have h9 := hE.trans ((if_pos (b2i_y c_1)).trans ((if_pos (b2i_y c_2)).trans ((if_neg c_3).trans ((if_neg c_6).trans ((if_pos (b2i_y c_7)).trans ((if_neg (b2i_n c_8)).trans rfl))))))
              exact r_zret X I rfl (e_i (congrArg b2i (congrArg Prod.fst h9)).symm (congrArg Prod.snd h9).symm rfl) dX3_readsClause_92
          · skip
            refine lv_iconst (v := 0) X.1 X.2.1 dX3_readsClause_76 (by decide) ?_
            have h9 := hE.trans ((if_pos (b2i_y c_1)).trans ((if_pos (b2i_y c_2)).trans ((if_neg c_3).trans ((if_neg c_6).trans ((if_neg (b2i_n c_7)).trans rfl)))))
            exact r_zret X I rfl (e_i (congrArg b2i (congrArg Prod.fst h9)).symm (congrArg Prod.snd h9).symm rfl) dX3_readsClause_77
        · skip
          refine lv_aload_n X.1 X.2.1 dX3_readsClause_46 rfl (lv_at hl 1 rfl) ?_
          refine lv_iconst (v := 0) X.1 X.2.1 dX3_readsClause_47 (by decide) ?_
          refine lv_iconst (v := 0) X.1 X.2.1 dX3_readsClause_48 (by decide) ?_
          refine r_ei I (r_runV X I pk_X3_readsCondition (c3_cond l G _ _ _ false (by decide)) lm_X3_49 (by decide) (cl_3 rfl) rfl rfl rfl hl.1 rfl (Nat.le_of_ble_eq_true rfl) dX3_readsClause_49 ⟨Nat.le_of_ble_eq_true rfl, Nat.le_of_ble_eq_true rfl⟩ ⟨Nat.le_refl 0, Nat.le_refl 0⟩) (fun H locs I => ?_)
          refine lv_if_eq (tgt := 66) X.1 X.2.1 dX3_readsClause_52 (by decide) (fun c_12 => ?_) (fun c_12 => ?_)
          · skip
            refine lv_iconst (v := 0) X.1 X.2.1 dX3_readsClause_66 (by decide) ?_
            have h9 := hE.trans ((if_pos (b2i_y c_1)).trans ((if_pos (b2i_y c_2)).trans ((if_neg c_3).trans ((if_pos c_6).trans ((if_neg (b2i_n c_12)).trans rfl)))))
            exact r_zret X I rfl (e_i (congrArg b2i (congrArg Prod.fst h9)).symm (congrArg Prod.snd h9).symm rfl) dX3_readsClause_67
          · skip
            refine lv_aload_n X.1 X.2.1 dX3_readsClause_55 rfl (lv_at hl 1 rfl) ?_
            refine r_ei I (r_runV X I pk_X3_readsWorth (c3_readsWorth l G _ _) lm_X3_53 (by decide) (cl_3 rfl) rfl rfl rfl hl.1 rfl (Nat.le_of_ble_eq_true rfl) dX3_readsClause_56 ⟨Nat.le_of_ble_eq_true rfl, Nat.le_of_ble_eq_true rfl⟩ ⟨Nat.le_refl 0, Nat.le_refl 0⟩) (fun H locs I => ?_)
            refine lv_if_eq (tgt := 66) X.1 X.2.1 dX3_readsClause_59 (by decide) (fun c_13 => ?_) (fun c_13 => ?_)
            · skip
              refine lv_iconst (v := 0) X.1 X.2.1 dX3_readsClause_66 (by decide) ?_
              have h9 := hE.trans ((if_pos (b2i_y c_1)).trans ((if_pos (b2i_y c_2)).trans ((if_neg c_3).trans ((if_pos c_6).trans ((if_pos (b2i_y c_12)).trans ((if_neg (b2i_n c_13)).trans rfl))))))
              exact r_zret X I rfl (e_i (congrArg b2i (congrArg Prod.fst h9)).symm (congrArg Prod.snd h9).symm rfl) dX3_readsClause_67
            · skip
              refine lv_iconst (v := 1) X.1 X.2.1 dX3_readsClause_62 (by decide) ?_
              refine lv_goto (tgt := 67) X.1 X.2.1 dX3_readsClause_63 (by decide) ?_
              have h9 := hE.trans ((if_pos (b2i_y c_1)).trans ((if_pos (b2i_y c_2)).trans ((if_neg c_3).trans ((if_pos c_6).trans ((if_pos (b2i_y c_12)).trans ((if_pos (b2i_y c_13)).trans rfl))))))
              exact r_zret X I rfl (e_i (congrArg b2i (congrArg Prod.fst h9)).symm (congrArg Prod.snd h9).symm rfl) dX3_readsClause_67
    · skip
      refine lv_iconst (v := 0) X.1 X.2.1 dX3_readsClause_24 (by decide) ?_
      have h9 := hE.trans ((if_pos (b2i_y c_1)).trans ((if_neg (b2i_n c_2)).trans rfl))
      exact r_zret X I rfl (e_i (congrArg b2i (congrArg Prod.fst h9)).symm (congrArg Prod.snd h9).symm rfl) dX3_readsClause_25
def f7_rewind (σ : SI) : SI := let s0 := sp σ 1 2 (0 : Int32); let s1 := sp s0 1 3 (-1 : Int32); s1
theorem w_f7_rewind (σ : SI) (a : Nat) (h0 : a ≠ 1) : (f7_rewind σ) a = σ a := by
  unfold f7_rewind
  (repeat' split) <;> (first | rfl | (simp only [sp_n, su_n, ne_eq, not_false_eq_true, h0]; done) | (simp [sp_n, su_n, ne_eq, not_false_eq_true, h0]; done))
set_option maxHeartbeats 4000000 in
set_option maxRecDepth 100000 in
theorem c7_rewind (l : Launch) (G : GT) (σ : SI) (τ : SL) : Mc l yX7_rewind cX7_rewind 1 none 0 G [.ref (G.2.1 1)] σ τ (Qv G (Ev (f7_rewind σ) τ)) := by
  refine m_start (by decide +kernel) (Nat.le_of_ble_eq_true rfl) rfl (fun p e s m args below meth c ls X I hl => ?_)
  have hl : lv_has ls 1 [(0, .ref (G.2.1 1))] := hl
  obtain ⟨E, hE⟩ : ∃ E, E = (f7_rewind σ) := ⟨_, rfl⟩
  rw [← hE]
  refine lv_aload_n X.1 X.2.1 dX7_rewind_0 rfl (lv_at hl 0 rfl) ?_
  refine lv_iconst (v := 0) X.1 X.2.1 dX7_rewind_1 (by decide) ?_
  refine p7_2 X I (k := 1) (by decide) rfl lf_X7_22 dX7_rewind_2 (fun H locs I => ?_)
  refine lv_aload_n X.1 X.2.1 dX7_rewind_5 rfl (lv_at hl 0 rfl) ?_
  refine lv_iconst (v := (-1)) X.1 X.2.1 dX7_rewind_6 (by decide) ?_
  refine p7_3 X I (k := 1) (by decide) rfl lf_X7_15 dX7_rewind_7 (fun H locs I => ?_)
  have h9 := hE
  exact r_vret X I (e_v (h9).symm rfl) dX7_rewind_10
def f3_reads_c16 : Nat → Int32 → SI → (Bool × SI)
  | 0, _, σ => (false, σ)
  | fu + 1, v1, σ => if (240 : Int32) ≤ v1 then (let r2 := (f7_fails σ); (r2.1, r2.2)) else (let r3 := (f3_readsClause σ); if r3.1 = true then (let s4 := (f1_add 8 r3.2 (-59 : Int32)); let r5 := (f7_peek s4); if r5.1 = (-1 : Int32) then (true, r5.2) else (let r6 := (f7_takes r5.2 (59 : Int32)); if r6.1 = true then (f3_reads_c16 fu (v1 + 1) r6.2) else (false, r6.2))) else (false, r3.2))
def f3_reads (σ : SI) : Bool × SI := let s0 := (f7_rewind σ); let s1 := (f1_clear 8 s0); (f3_reads_c16 ((Int32.toInt (240 : Int32) - Int32.toInt (0 : Int32)).toNat + 1) (0 : Int32) s1)
theorem w_f3_reads_c16 (a : Nat) (h0 : a ≠ 1) (h1 : a ≠ 8) (h2 : a ≠ 9) : ∀ (fu : Nat) (v1 : Int32) (σ : SI), (f3_reads_c16 fu v1 σ).2 a = σ a := by
  intro fu
  induction fu with
  | zero => intros; rfl
  | succ fu ih =>
    intro v1 σ
    unfold f3_reads_c16
    (repeat' split) <;> (first | rfl | (simp only [sp_n, su_n, ne_eq, not_false_eq_true, h0, h1, h2, w_f1_add, w_f1_clear, w_f3_readsClause, w_f7_fails, w_f7_peek, w_f7_rewind, w_f7_takes, ih]; done) | (simp [sp_n, su_n, ne_eq, not_false_eq_true, h0, h1, h2, w_f1_add, w_f1_clear, w_f3_readsClause, w_f7_fails, w_f7_peek, w_f7_rewind, w_f7_takes, ih]; done))
theorem w_f3_reads (σ : SI) (a : Nat) (h0 : a ≠ 1) (h1 : a ≠ 8) (h2 : a ≠ 9) : (f3_reads σ).2 a = σ a := by
  unfold f3_reads
  (repeat' split) <;> (first | rfl | (simp only [sp_n, su_n, ne_eq, not_false_eq_true, h0, h1, h2, w_f1_add, w_f1_clear, w_f3_readsClause, w_f7_fails, w_f7_peek, w_f7_rewind, w_f7_takes, w_f3_reads_c16]; done) | (simp [sp_n, su_n, ne_eq, not_false_eq_true, h0, h1, h2, w_f1_add, w_f1_clear, w_f3_readsClause, w_f7_fails, w_f7_peek, w_f7_rewind, w_f7_takes, w_f3_reads_c16]; done))
set_option maxHeartbeats 4000000 in
set_option maxRecDepth 100000 in
theorem c3_reads_c16 {l : Launch} {p : Program} {e : Env} {s : State} {m : MethodId} {args : Array Value} {below : List Frame} {meth : Method} {c : Code} {G : GT} (X : CX p s m args meth c cX3_reads RX3 2 (some .boolean) G) {E : Bool × SI} (τ : SL) : ∀ (fu : Nat) (v1 : Int32) (σ : SI) (H : Heap) (locs : List Loc) (ls : Array Slot), IX G s H locs σ τ → lv_has ls 2 [(0, .ref (G.2.1 7)), (1, .int v1)] → (Int32.toInt (240 : Int32) - Int32.toInt v1).toNat < fu → E = (f3_reads_c16 fu v1 σ) → W p l e (rmN 66) s m args below meth c H locs 0 0 (MQ below ((Qi G (Ei (b2i E.1) E.2 τ)) s.heap.size) args s 0 0 (AW G s.heap.size)) (F0 m 16 ls []) := by
  intro fu
  induction fu with
  | zero =>
    intro v1 σ H locs ls I hl  hm hE
    exact absurd hm (Nat.not_lt_zero _)
  | succ fu ih =>
    intro v1 σ H locs ls I hl  hm hE
    refine lv_iload_n X.1 X.2.1 dX3_reads_16 rfl (lv_at hl 1 rfl) ?_
    refine lv_sipush (v := 240) X.1 X.2.1 dX3_reads_17 (by decide) ?_
    refine lv_icmp_ge (tgt := 74) X.1 X.2.1 dX3_reads_20 (by decide) (fun c_1 => ?_) (fun c_1 => ?_)
    · skip
      refine lv_aload_n X.1 X.2.1 dX3_reads_74 rfl (lv_at hl 0 rfl) ?_
      refine g3_0 X I (k := 7) (by decide) rfl lf_X3_9 dX3_reads_75 ?_
      refine r_ei I (r_runV X I pk_X7_fails (c7_fails l G _ _) lm_X3_46 (by decide) (cl_7 rfl) rfl rfl rfl hl.1 rfl (Nat.le_of_ble_eq_true rfl) dX3_reads_78 ⟨Nat.le_of_ble_eq_true rfl, Nat.le_of_ble_eq_true rfl⟩ ⟨Nat.le_refl 0, Nat.le_refl 0⟩) (fun H locs I => ?_)
      have h9 := hE.trans ((if_pos c_1).trans rfl)
      exact r_zret X I (b2i_nar _) (e_i (congrArg b2i (congrArg Prod.fst h9)).symm (congrArg Prod.snd h9).symm rfl) dX3_reads_81
    · skip
      refine lv_aload_n X.1 X.2.1 dX3_reads_23 rfl (lv_at hl 0 rfl) ?_
      refine r_ei I (r_runV X I pk_X3_readsClause (c3_readsClause l G _ _) lm_X3_30 (by decide) (cl_3 rfl) rfl rfl rfl hl.1 rfl (Nat.le_of_ble_eq_true rfl) dX3_reads_24 ⟨Nat.le_of_ble_eq_true rfl, Nat.le_of_ble_eq_true rfl⟩ ⟨Nat.le_refl 0, Nat.le_refl 0⟩) (fun H locs I => ?_)
      refine lv_if_ne (tgt := 32) X.1 X.2.1 dX3_reads_27 (by decide) (fun c_2 => ?_) (fun c_2 => ?_)
      · skip
        refine lv_aload_n X.1 X.2.1 dX3_reads_32 rfl (lv_at hl 0 rfl) ?_
        refine g3_1 X I (k := 7) (by decide) rfl lf_X3_18 dX3_reads_33 ?_
        refine lv_bipush (v := (-59)) X.1 X.2.1 dX3_reads_36 (by decide) ?_
        refine r_ev I (r_runV X I pk_X1_add (c1_add l G (k := 8) ⟨by decide, rfl, rfl⟩ _ _ _) lm_X3_34 (by decide) (cl_1 rfl) rfl rfl rfl hl.1 rfl (Nat.le_of_ble_eq_true rfl) dX3_reads_38 ⟨Nat.le_of_ble_eq_true rfl, Nat.le_of_ble_eq_true rfl⟩ ⟨Nat.le_refl 0, Nat.le_refl 0⟩) (fun H locs I => ?_)
        refine lv_aload_n X.1 X.2.1 dX3_reads_41 rfl (lv_at hl 0 rfl) ?_
        refine g3_0 X I (k := 7) (by decide) rfl lf_X3_9 dX3_reads_42 ?_
        refine r_ei I (r_runV X I pk_X7_peek (c7_peek l G _ _) lm_X3_38 (by decide) (cl_7 rfl) rfl rfl rfl hl.1 rfl (Nat.le_of_ble_eq_true rfl) dX3_reads_45 ⟨Nat.le_of_ble_eq_true rfl, Nat.le_of_ble_eq_true rfl⟩ ⟨Nat.le_refl 0, Nat.le_refl 0⟩) (fun H locs I => ?_)
        refine lv_iconst (v := (-1)) X.1 X.2.1 dX3_reads_48 (by decide) ?_
        refine lv_icmp_ne (tgt := 54) X.1 X.2.1 dX3_reads_49 (by decide) (fun c_3 => ?_) (fun c_3 => ?_)
        · skip
          refine lv_aload_n X.1 X.2.1 dX3_reads_54 rfl (lv_at hl 0 rfl) ?_
          refine g3_0 X I (k := 7) (by decide) rfl lf_X3_9 dX3_reads_55 ?_
          refine lv_bipush (v := 59) X.1 X.2.1 dX3_reads_58 (by decide) ?_
          refine r_ei I (r_runV X I pk_X7_takes (c7_takes l G _ _ _) lm_X3_42 (by decide) (cl_7 rfl) rfl rfl rfl hl.1 rfl (Nat.le_of_ble_eq_true rfl) dX3_reads_60 ⟨Nat.le_of_ble_eq_true rfl, Nat.le_of_ble_eq_true rfl⟩ ⟨Nat.le_refl 0, Nat.le_refl 0⟩) (fun H locs I => ?_)
          refine lv_if_ne (tgt := 68) X.1 X.2.1 dX3_reads_63 (by decide) (fun c_4 => ?_) (fun c_4 => ?_)
          · skip
            refine lv_iinc (v := _ + 1) (lv' := [(1, .int _), (0, .ref _)]) X.1 X.2.1 dX3_reads_68 hl (k := 1) rfl rfl (by decide) rfl (fun ls hl => ?_)
            refine lv_goto (tgt := 16) X.1 X.2.1 dX3_reads_71 (by decide) ?_
            exact ih _ _ _ _ _ I (lv_sub hl [1, 0] rfl) (Nat.lt_of_lt_of_le (up_dec c_1) (Nat.le_of_lt_succ hm)) (hE.trans ((if_neg c_1).trans ((if_pos (b2i_y c_2)).trans ((if_neg c_3).trans ((if_pos (b2i_y c_4)).trans rfl)))))
          · skip
            refine lv_iconst (v := 0) X.1 X.2.1 dX3_reads_66 (by decide) ?_
            have h9 := hE.trans ((if_neg c_1).trans ((if_pos (b2i_y c_2)).trans ((if_neg c_3).trans ((if_neg (b2i_n c_4)).trans rfl))))
            exact r_zret X I rfl (e_i (congrArg b2i (congrArg Prod.fst h9)).symm (congrArg Prod.snd h9).symm rfl) dX3_reads_67
        · skip
          refine lv_iconst (v := 1) X.1 X.2.1 dX3_reads_52 (by decide) ?_
          have h9 := hE.trans ((if_neg c_1).trans ((if_pos (b2i_y c_2)).trans ((if_pos c_3).trans rfl)))
          exact r_zret X I rfl (e_i (congrArg b2i (congrArg Prod.fst h9)).symm (congrArg Prod.snd h9).symm rfl) dX3_reads_53
      · skip
        refine lv_iconst (v := 0) X.1 X.2.1 dX3_reads_30 (by decide) ?_
        have h9 := hE.trans ((if_neg c_1).trans ((if_neg (b2i_n c_2)).trans rfl))
        exact r_zret X I rfl (e_i (congrArg b2i (congrArg Prod.fst h9)).symm (congrArg Prod.snd h9).symm rfl) dX3_reads_31
set_option maxHeartbeats 4000000 in
set_option maxRecDepth 100000 in
theorem c3_reads (l : Launch) (G : GT) (σ : SI) (τ : SL) : Mc l yX3_reads cX3_reads 2 (some .boolean) 66 G [.ref (G.2.1 7)] σ τ (Qi G (Ei (b2i (f3_reads σ).1) (f3_reads σ).2 τ)) := by
  refine m_start (by decide +kernel) (Nat.le_of_ble_eq_true rfl) rfl (fun p e s m args below meth c ls X I hl => ?_)
  have hl : lv_has ls 2 [(0, .ref (G.2.1 7))] := hl
  obtain ⟨E, hE⟩ : ∃ E, E = (f3_reads σ) := ⟨_, rfl⟩
  rw [← hE]
  refine lv_aload_n X.1 X.2.1 dX3_reads_0 rfl (lv_at hl 0 rfl) ?_
  refine g3_0 X I (k := 7) (by decide) rfl lf_X3_9 dX3_reads_1 ?_
  refine r_ev I (r_runV X I pk_X7_rewind (c7_rewind l G _ _) lm_X3_22 (by decide) (cl_7 rfl) rfl rfl rfl hl.1 rfl (Nat.le_of_ble_eq_true rfl) dX3_reads_4 ⟨Nat.le_of_ble_eq_true rfl, Nat.le_of_ble_eq_true rfl⟩ ⟨Nat.le_refl 0, Nat.le_refl 0⟩) (fun H locs I => ?_)
  refine lv_aload_n X.1 X.2.1 dX3_reads_7 rfl (lv_at hl 0 rfl) ?_
  refine g3_1 X I (k := 7) (by decide) rfl lf_X3_18 dX3_reads_8 ?_
  refine r_ev I (r_runV X I pk_X1_clear (c1_clear l G (k := 8) ⟨by decide, rfl, rfl⟩ _ _) lm_X3_27 (by decide) (cl_1 rfl) rfl rfl rfl hl.1 rfl (Nat.le_of_ble_eq_true rfl) dX3_reads_11 ⟨Nat.le_of_ble_eq_true rfl, Nat.le_of_ble_eq_true rfl⟩ ⟨Nat.le_refl 0, Nat.le_refl 0⟩) (fun H locs I => ?_)
  refine lv_iconst (v := 0) X.1 X.2.1 dX3_reads_14 (by decide) ?_
  refine lv_istore_n (lv' := [(1, .int _), (0, .ref _)]) X.1 X.2.1 dX3_reads_15 rfl hl (by decide) rfl (fun ls hl => ?_)
  exact c3_reads_c16 X _  _ _ _ _ _ _ I (lv_sub hl [1, 0] rfl) (Nat.lt_succ_self _) (hE.trans (rfl))
def f4_stay (σ : SI) (x1 : Int32) (x2 : Int32) (x3 : Int32) (x4 : Int32) : SI := let s0 := sp σ 32 3 x1; let s1 := sp s0 32 4 x2; let s2 := sp s1 32 5 x3; let s3 := sp s2 32 6 x4; s3
theorem w_f4_stay (σ : SI) (x1 : Int32) (x2 : Int32) (x3 : Int32) (x4 : Int32) (a : Nat) (h0 : a ≠ 32) : (f4_stay σ x1 x2 x3 x4) a = σ a := by
  unfold f4_stay
  (repeat' split) <;> (first | rfl | (simp only [sp_n, su_n, ne_eq, not_false_eq_true, h0]; done) | (simp [sp_n, su_n, ne_eq, not_false_eq_true, h0]; done))
set_option maxHeartbeats 4000000 in
set_option maxRecDepth 100000 in
theorem c4_stay (l : Launch) (G : GT) (σ : SI) (τ : SL) (x1 : Int32) (x2 : Int32) (x3 : Int32) (x4 : Int32) : Mc l yX4_stay cX4_stay 5 none 0 G [.ref (G.2.1 32), .int x1, .int x2, .int x3, .int x4] σ τ (Qv G (Ev (f4_stay σ x1 x2 x3 x4) τ)) := by
  refine m_start (by decide +kernel) (Nat.le_of_ble_eq_true rfl) rfl (fun p e s m args below meth c ls X I hl => ?_)
  have hl : lv_has ls 5 [(0, .ref (G.2.1 32)), (1, .int x1), (2, .int x2), (3, .int x3), (4, .int x4)] := hl
  obtain ⟨E, hE⟩ : ∃ E, E = (f4_stay σ x1 x2 x3 x4) := ⟨_, rfl⟩
  rw [← hE]
  refine lv_aload_n X.1 X.2.1 dX4_stay_0 rfl (lv_at hl 0 rfl) ?_
  refine lv_iload_n X.1 X.2.1 dX4_stay_1 rfl (lv_at hl 1 rfl) ?_
  refine p4_3 X I (k := 32) (by decide) rfl lf_X4_42 dX4_stay_2 (fun H locs I => ?_)
  refine lv_aload_n X.1 X.2.1 dX4_stay_5 rfl (lv_at hl 0 rfl) ?_
  refine lv_iload_n X.1 X.2.1 dX4_stay_6 rfl (lv_at hl 2 rfl) ?_
  refine p4_4 X I (k := 32) (by decide) rfl lf_X4_43 dX4_stay_7 (fun H locs I => ?_)
  refine lv_aload_n X.1 X.2.1 dX4_stay_10 rfl (lv_at hl 0 rfl) ?_
  refine lv_iload_n X.1 X.2.1 dX4_stay_11 rfl (lv_at hl 3 rfl) ?_
  refine p4_5 X I (k := 32) (by decide) rfl lf_X4_44 dX4_stay_12 (fun H locs I => ?_)
  refine lv_aload_n X.1 X.2.1 dX4_stay_15 rfl (lv_at hl 0 rfl) ?_
  refine lv_iload X.1 X.2.1 dX4_stay_16 (lv_at hl 4 rfl) ?_
  refine p4_6 X I (k := 32) (by decide) rfl lf_X4_45 dX4_stay_18 (fun H locs I => ?_)
  have h9 := hE
  exact r_vret X I (e_v (h9).symm rfl) dX4_stay_21
def f4_setOut (σ : SI) : SI := let s0 := (f4_stay σ (σ 24 4) (σ 24 2) (σ 24 3) (σ 24 5)); s0
theorem w_f4_setOut (σ : SI) (a : Nat) (h0 : a ≠ 32) : (f4_setOut σ) a = σ a := by
  unfold f4_setOut
  (repeat' split) <;> (first | rfl | (simp only [sp_n, su_n, ne_eq, not_false_eq_true, h0, w_f4_stay]; done) | (simp [sp_n, su_n, ne_eq, not_false_eq_true, h0, w_f4_stay]; done))
set_option maxHeartbeats 4000000 in
set_option maxRecDepth 100000 in
theorem c4_setOut (l : Launch) (G : GT) (σ : SI) (τ : SL) : Mc l yX4_setOut cX4_setOut 1 none 1 G [.ref (G.2.1 32)] σ τ (Qv G (Ev (f4_setOut σ) τ)) := by
  refine m_start (by decide +kernel) (Nat.le_of_ble_eq_true rfl) rfl (fun p e s m args below meth c ls X I hl => ?_)
  have hl : lv_has ls 1 [(0, .ref (G.2.1 32))] := hl
  obtain ⟨E, hE⟩ : ∃ E, E = (f4_setOut σ) := ⟨_, rfl⟩
  rw [← hE]
  refine lv_aload_n X.1 X.2.1 dX4_setOut_0 rfl (lv_at hl 0 rfl) ?_
  refine lv_aload_n X.1 X.2.1 dX4_setOut_1 rfl (lv_at hl 0 rfl) ?_
  refine g4_2 X I (k := 32) (by decide) rfl lf_X4_19 dX4_setOut_2 ?_
  refine g0_4 X I (k := 24) (by decide) rfl lf_X4_23 dX4_setOut_5 ?_
  refine lv_aload_n X.1 X.2.1 dX4_setOut_8 rfl (lv_at hl 0 rfl) ?_
  refine g4_2 X I (k := 32) (by decide) rfl lf_X4_19 dX4_setOut_9 ?_
  refine g0_2 X I (k := 24) (by decide) rfl lf_X4_29 dX4_setOut_12 ?_
  refine lv_aload_n X.1 X.2.1 dX4_setOut_15 rfl (lv_at hl 0 rfl) ?_
  refine g4_2 X I (k := 32) (by decide) rfl lf_X4_19 dX4_setOut_16 ?_
  refine g0_3 X I (k := 24) (by decide) rfl lf_X4_32 dX4_setOut_19 ?_
  refine lv_aload_n X.1 X.2.1 dX4_setOut_22 rfl (lv_at hl 0 rfl) ?_
  refine g4_2 X I (k := 32) (by decide) rfl lf_X4_19 dX4_setOut_23 ?_
  refine g0_5 X I (k := 24) (by decide) rfl lf_X4_35 dX4_setOut_26 ?_
  refine r_ev I (r_runV X I pk_X4_stay (c4_stay l G _ _ _ _ _ _) lm_X4_38 (by decide) (cl_4 rfl) rfl rfl rfl hl.1 rfl (Nat.le_of_ble_eq_true rfl) dX4_setOut_29 ⟨Nat.le_of_ble_eq_true rfl, Nat.le_of_ble_eq_true rfl⟩ ⟨Nat.le_refl 0, Nat.le_refl 0⟩) (fun H locs I => ?_)
  have h9 := hE
  exact r_vret X I (e_v (h9).symm rfl) dX4_setOut_32
def f8_xOf (k : Nat) (σ : SI) (x1 : Int32) : Int32 := (f8_ofHouse k σ x1 (0 : Int32))
set_option maxHeartbeats 4000000 in
set_option maxRecDepth 100000 in
theorem c8_xOf (l : Launch) (G : GT) {k : Nat} (hk : isTown k) (σ : SI) (τ : SL) (x1 : Int32) : Mc l yX8_xOf cX8_xOf 2 (some .int) 4 G [.ref (G.2.1 k), .int x1] σ τ (Qi G (Ei (f8_xOf k σ x1) σ τ)) := by
  refine m_start (by decide +kernel) (Nat.le_of_ble_eq_true rfl) rfl (fun p e s m args below meth c ls X I hl => ?_)
  have hl : lv_has ls 2 [(0, .ref (G.2.1 k)), (1, .int x1)] := hl
  obtain ⟨E, hE⟩ : ∃ E, E = (f8_xOf k σ x1) := ⟨_, rfl⟩
  rw [← hE]
  refine lv_aload_n X.1 X.2.1 dX8_xOf_0 rfl (lv_at hl 0 rfl) ?_
  refine lv_iload_n X.1 X.2.1 dX8_xOf_1 rfl (lv_at hl 1 rfl) ?_
  refine lv_iconst (v := 0) X.1 X.2.1 dX8_xOf_2 (by decide) ?_
  refine r_ei I (r_runV X I pk_X8_ofHouse (c8_ofHouse l G (k := k) hk _ _ _ _) lm_X8_73 (Nat.lt_of_le_of_lt (Nat.add_le_add_left (show 0 ≤ 2 by decide) k) hk.1) (cl_8 hk.2.1) rfl rfl rfl hl.1 rfl (Nat.le_of_ble_eq_true rfl) dX8_xOf_3 ⟨Nat.le_of_ble_eq_true rfl, Nat.le_of_ble_eq_true rfl⟩ ⟨Nat.le_refl 0, Nat.le_refl 0⟩) (fun H locs I => ?_)
  have h9 := hE
  exact r_iret X I (e_i (h9).symm rfl rfl) dX8_xOf_6
def f8_yOf (k : Nat) (σ : SI) (x1 : Int32) : Int32 := (f8_ofHouse k σ x1 (1 : Int32))
set_option maxHeartbeats 4000000 in
set_option maxRecDepth 100000 in
theorem c8_yOf (l : Launch) (G : GT) {k : Nat} (hk : isTown k) (σ : SI) (τ : SL) (x1 : Int32) : Mc l yX8_yOf cX8_yOf 2 (some .int) 4 G [.ref (G.2.1 k), .int x1] σ τ (Qi G (Ei (f8_yOf k σ x1) σ τ)) := by
  refine m_start (by decide +kernel) (Nat.le_of_ble_eq_true rfl) rfl (fun p e s m args below meth c ls X I hl => ?_)
  have hl : lv_has ls 2 [(0, .ref (G.2.1 k)), (1, .int x1)] := hl
  obtain ⟨E, hE⟩ : ∃ E, E = (f8_yOf k σ x1) := ⟨_, rfl⟩
  rw [← hE]
  refine lv_aload_n X.1 X.2.1 dX8_yOf_0 rfl (lv_at hl 0 rfl) ?_
  refine lv_iload_n X.1 X.2.1 dX8_yOf_1 rfl (lv_at hl 1 rfl) ?_
  refine lv_iconst (v := 1) X.1 X.2.1 dX8_yOf_2 (by decide) ?_
  refine r_ei I (r_runV X I pk_X8_ofHouse (c8_ofHouse l G (k := k) hk _ _ _ _) lm_X8_73 (Nat.lt_of_le_of_lt (Nat.add_le_add_left (show 0 ≤ 2 by decide) k) hk.1) (cl_8 hk.2.1) rfl rfl rfl hl.1 rfl (Nat.le_of_ble_eq_true rfl) dX8_yOf_3 ⟨Nat.le_of_ble_eq_true rfl, Nat.le_of_ble_eq_true rfl⟩ ⟨Nat.le_refl 0, Nat.le_refl 0⟩) (fun H locs I => ?_)
  have h9 := hE
  exact r_iret X I (e_i (h9).symm rfl rfl) dX8_yOf_6
def f8_distance (k : Nat) (σ : SI) (x1 : Int32) (x2 : Int32) : Int32 := ((if 0 ≤ ((f8_xOf k σ x1) - (f8_xOf k σ x2)) then ((f8_xOf k σ x1) - (f8_xOf k σ x2)) else 0 - ((f8_xOf k σ x1) - (f8_xOf k σ x2))) + (if 0 ≤ ((f8_yOf k σ x1) - (f8_yOf k σ x2)) then ((f8_yOf k σ x1) - (f8_yOf k σ x2)) else 0 - ((f8_yOf k σ x1) - (f8_yOf k σ x2))))
set_option maxHeartbeats 4000000 in
set_option maxRecDepth 100000 in
theorem c8_distance (l : Launch) (G : GT) {k : Nat} (hk : isTown k) (σ : SI) (τ : SL) (x1 : Int32) (x2 : Int32) : Mc l yX8_distance cX8_distance 3 (some .int) 5 G [.ref (G.2.1 k), .int x1, .int x2] σ τ (Qi G (Ei (f8_distance k σ x1 x2) σ τ)) := by
  refine m_start (by decide +kernel) (Nat.le_of_ble_eq_true rfl) rfl (fun p e s m args below meth c ls X I hl => ?_)
  have hl : lv_has ls 3 [(0, .ref (G.2.1 k)), (1, .int x1), (2, .int x2)] := hl
  obtain ⟨E, hE⟩ : ∃ E, E = (f8_distance k σ x1 x2) := ⟨_, rfl⟩
  rw [← hE]
  refine lv_aload_n X.1 X.2.1 dX8_distance_0 rfl (lv_at hl 0 rfl) ?_
  refine lv_iload_n X.1 X.2.1 dX8_distance_1 rfl (lv_at hl 1 rfl) ?_
  refine r_ei I (r_runV X I pk_X8_xOf (c8_xOf l G (k := k) hk _ _ _) lm_X8_76 (Nat.lt_of_le_of_lt (Nat.add_le_add_left (show 0 ≤ 2 by decide) k) hk.1) (cl_8 hk.2.1) rfl rfl rfl hl.1 rfl (Nat.le_of_ble_eq_true rfl) dX8_distance_2 ⟨Nat.le_of_ble_eq_true rfl, Nat.le_of_ble_eq_true rfl⟩ ⟨Nat.le_refl 0, Nat.le_refl 0⟩) (fun H locs I => ?_)
  refine lv_aload_n X.1 X.2.1 dX8_distance_5 rfl (lv_at hl 0 rfl) ?_
  refine lv_iload_n X.1 X.2.1 dX8_distance_6 rfl (lv_at hl 2 rfl) ?_
  refine r_ei I (r_runV X I pk_X8_xOf (c8_xOf l G (k := k) hk _ _ _) lm_X8_76 (Nat.lt_of_le_of_lt (Nat.add_le_add_left (show 0 ≤ 2 by decide) k) hk.1) (cl_8 hk.2.1) rfl rfl rfl hl.1 rfl (Nat.le_of_ble_eq_true rfl) dX8_distance_7 ⟨Nat.le_of_ble_eq_true rfl, Nat.le_of_ble_eq_true rfl⟩ ⟨Nat.le_refl 0, Nat.le_refl 0⟩) (fun H locs I => ?_)
  refine lv_isub X.1 X.2.1 dX8_distance_10 ?_
  refine r_mabs X hl.1 lm_X8_80 ls_J9_abs_0f7a4 ln_J9 lc_J9_abs_0f7a4 (Nat.le_of_ble_eq_true rfl) (Nat.le_of_ble_eq_true rfl) (Nat.le_refl 0) (Nat.le_refl 0) dX8_distance_11 ?_
  refine lv_aload_n X.1 X.2.1 dX8_distance_14 rfl (lv_at hl 0 rfl) ?_
  refine lv_iload_n X.1 X.2.1 dX8_distance_15 rfl (lv_at hl 1 rfl) ?_
  refine r_ei I (r_runV X I pk_X8_yOf (c8_yOf l G (k := k) hk _ _ _) lm_X8_85 (Nat.lt_of_le_of_lt (Nat.add_le_add_left (show 0 ≤ 2 by decide) k) hk.1) (cl_8 hk.2.1) rfl rfl rfl hl.1 rfl (Nat.le_of_ble_eq_true rfl) dX8_distance_16 ⟨Nat.le_of_ble_eq_true rfl, Nat.le_of_ble_eq_true rfl⟩ ⟨Nat.le_refl 0, Nat.le_refl 0⟩) (fun H locs I => ?_)
  refine lv_aload_n X.1 X.2.1 dX8_distance_19 rfl (lv_at hl 0 rfl) ?_
  refine lv_iload_n X.1 X.2.1 dX8_distance_20 rfl (lv_at hl 2 rfl) ?_
  refine r_ei I (r_runV X I pk_X8_yOf (c8_yOf l G (k := k) hk _ _ _) lm_X8_85 (Nat.lt_of_le_of_lt (Nat.add_le_add_left (show 0 ≤ 2 by decide) k) hk.1) (cl_8 hk.2.1) rfl rfl rfl hl.1 rfl (Nat.le_of_ble_eq_true rfl) dX8_distance_21 ⟨Nat.le_of_ble_eq_true rfl, Nat.le_of_ble_eq_true rfl⟩ ⟨Nat.le_refl 0, Nat.le_refl 0⟩) (fun H locs I => ?_)
  refine lv_isub X.1 X.2.1 dX8_distance_24 ?_
  refine r_mabs X hl.1 lm_X8_80 ls_J9_abs_0f7a4 ln_J9 lc_J9_abs_0f7a4 (Nat.le_of_ble_eq_true rfl) (Nat.le_of_ble_eq_true rfl) (Nat.le_refl 0) (Nat.le_refl 0) dX8_distance_25 ?_
  refine lv_iadd X.1 X.2.1 dX8_distance_28 ?_
  have h9 := hE
  exact r_iret X I (e_i (h9).symm rfl rfl) dX8_distance_29
def f8_isThankful (k : Nat) (σ : SI) (x1 : Int32) : Bool := if (f8_ofHouse k σ x1 (3 : Int32)) = (1 : Int32) then true else false
set_option maxHeartbeats 4000000 in
set_option maxRecDepth 100000 in
theorem c8_isThankful (l : Launch) (G : GT) {k : Nat} (hk : isTown k) (σ : SI) (τ : SL) (x1 : Int32) : Mc l yX8_isThankful cX8_isThankful 2 (some .boolean) 4 G [.ref (G.2.1 k), .int x1] σ τ (Qi G (Ei (b2i (f8_isThankful k σ x1)) σ τ)) := by
  refine m_start (by decide +kernel) (Nat.le_of_ble_eq_true rfl) rfl (fun p e s m args below meth c ls X I hl => ?_)
  have hl : lv_has ls 2 [(0, .ref (G.2.1 k)), (1, .int x1)] := hl
  obtain ⟨E, hE⟩ : ∃ E, E = (f8_isThankful k σ x1) := ⟨_, rfl⟩
  rw [← hE]
  refine lv_aload_n X.1 X.2.1 dX8_isThankful_0 rfl (lv_at hl 0 rfl) ?_
  refine lv_iload_n X.1 X.2.1 dX8_isThankful_1 rfl (lv_at hl 1 rfl) ?_
  refine lv_iconst (v := 3) X.1 X.2.1 dX8_isThankful_2 (by decide) ?_
  refine r_ei I (r_runV X I pk_X8_ofHouse (c8_ofHouse l G (k := k) hk _ _ _ _) lm_X8_73 (Nat.lt_of_le_of_lt (Nat.add_le_add_left (show 0 ≤ 2 by decide) k) hk.1) (cl_8 hk.2.1) rfl rfl rfl hl.1 rfl (Nat.le_of_ble_eq_true rfl) dX8_isThankful_3 ⟨Nat.le_of_ble_eq_true rfl, Nat.le_of_ble_eq_true rfl⟩ ⟨Nat.le_refl 0, Nat.le_refl 0⟩) (fun H locs I => ?_)
  refine lv_iconst (v := 1) X.1 X.2.1 dX8_isThankful_6 (by decide) ?_
  refine lv_icmp_ne (tgt := 14) X.1 X.2.1 dX8_isThankful_7 (by decide) (fun c_1 => ?_) (fun c_1 => ?_)
  · skip
    refine lv_iconst (v := 0) X.1 X.2.1 dX8_isThankful_14 (by decide) ?_
    have h9 := hE.trans ((if_neg c_1).trans rfl)
    exact r_zret X I rfl (e_i (congrArg b2i (h9)).symm rfl rfl) dX8_isThankful_15
  · skip
    refine lv_iconst (v := 1) X.1 X.2.1 dX8_isThankful_10 (by decide) ?_
    refine lv_goto (tgt := 15) X.1 X.2.1 dX8_isThankful_11 (by decide) ?_
    have h9 := hE.trans ((if_pos c_1).trans rfl)
    exact r_zret X I rfl (e_i (congrArg b2i (h9)).symm rfl rfl) dX8_isThankful_15
def f8_bearers (k : Nat) (σ : SI) : Int32 := (f11_cell (k + 2) 3 σ (2 : Int32))
set_option maxHeartbeats 4000000 in
set_option maxRecDepth 100000 in
theorem c8_bearers (l : Launch) (G : GT) {k : Nat} (hk : isTown k) (σ : SI) (τ : SL) : Mc l yX8_bearers cX8_bearers 1 (some .int) 1 G [.ref (G.2.1 k)] σ τ (Qi G (Ei (f8_bearers k σ) σ τ)) := by
  refine m_start (by decide +kernel) (Nat.le_of_ble_eq_true rfl) rfl (fun p e s m args below meth c ls X I hl => ?_)
  have hl : lv_has ls 1 [(0, .ref (G.2.1 k))] := hl
  obtain ⟨E, hE⟩ : ∃ E, E = (f8_bearers k σ) := ⟨_, rfl⟩
  rw [← hE]
  refine lv_aload_n X.1 X.2.1 dX8_bearers_0 rfl (lv_at hl 0 rfl) ?_
  refine g8_1 X I (k := k) (Nat.lt_of_le_of_lt (Nat.add_le_add_left (show 0 ≤ 2 by decide) k) hk.1) hk.2.1 lf_X8_15 dX8_bearers_1 ?_
  refine lv_iconst (v := 2) X.1 X.2.1 dX8_bearers_4 (by decide) ?_
  refine r_ei I (r_runN X I pk_X11_cell (c11_cell l G (k := (k + 2)) (n := 3) (Nat.lt_of_le_of_lt (Nat.add_le_add_left (show 2 ≤ 2 by decide) k) hk.1) hk.2.2.2 (by decide) _ _ _) (by decide +kernel) rfl hl.1 rfl (Nat.le_of_ble_eq_true rfl) dX8_bearers_5 ⟨Nat.le_of_ble_eq_true rfl, Nat.le_of_ble_eq_true rfl⟩ ⟨Nat.le_refl 0, Nat.le_refl 0⟩) (fun H locs I => ?_)
  have h9 := hE
  exact r_iret X I (e_i (h9).symm rfl rfl) dX8_bearers_8
def f8_strengthOf (k : Nat) (σ : SI) (x1 : Int32) : Int32 := if x1 < (0 : Int32) then (0 : Int32) else (if (f8_bearers k σ) ≤ x1 then (0 : Int32) else (f11_cell (k + 1) 36 σ ((f11_cellS 2 (2 : Int32)) + x1)))
set_option maxHeartbeats 4000000 in
set_option maxRecDepth 100000 in
theorem c8_strengthOf (l : Launch) (G : GT) {k : Nat} (hk : isTown k) (σ : SI) (τ : SL) (x1 : Int32) : Mc l yX8_strengthOf cX8_strengthOf 2 (some .int) 2 G [.ref (G.2.1 k), .int x1] σ τ (Qi G (Ei (f8_strengthOf k σ x1) σ τ)) := by
  refine m_start (by decide +kernel) (Nat.le_of_ble_eq_true rfl) rfl (fun p e s m args below meth c ls X I hl => ?_)
  have hl : lv_has ls 2 [(0, .ref (G.2.1 k)), (1, .int x1)] := hl
  obtain ⟨E, hE⟩ : ∃ E, E = (f8_strengthOf k σ x1) := ⟨_, rfl⟩
  rw [← hE]
  refine lv_iload_n X.1 X.2.1 dX8_strengthOf_0 rfl (lv_at hl 1 rfl) ?_
  refine lv_if_lt (tgt := 31) X.1 X.2.1 dX8_strengthOf_1 (by decide) (fun c_1 => ?_) (fun c_1 => ?_)
  · skip
    refine lv_iconst (v := 0) X.1 X.2.1 dX8_strengthOf_31 (by decide) ?_
    have h9 := hE.trans ((if_pos c_1).trans rfl)
    exact r_iret X I (e_i (h9).symm rfl rfl) dX8_strengthOf_32
  · skip
    refine lv_iload_n X.1 X.2.1 dX8_strengthOf_4 rfl (lv_at hl 1 rfl) ?_
    refine lv_aload_n X.1 X.2.1 dX8_strengthOf_5 rfl (lv_at hl 0 rfl) ?_
    refine r_ei I (r_runV X I pk_X8_bearers (c8_bearers l G (k := k) hk _ _) lm_X8_58 (Nat.lt_of_le_of_lt (Nat.add_le_add_left (show 0 ≤ 2 by decide) k) hk.1) (cl_8 hk.2.1) rfl rfl rfl hl.1 rfl (Nat.le_of_ble_eq_true rfl) dX8_strengthOf_6 ⟨Nat.le_of_ble_eq_true rfl, Nat.le_of_ble_eq_true rfl⟩ ⟨Nat.le_refl 0, Nat.le_refl 0⟩) (fun H locs I => ?_)
    refine lv_icmp_ge (tgt := 31) X.1 X.2.1 dX8_strengthOf_9 (by decide) (fun c_2 => ?_) (fun c_2 => ?_)
    · skip
      refine lv_iconst (v := 0) X.1 X.2.1 dX8_strengthOf_31 (by decide) ?_
      have h9 := hE.trans ((if_neg c_1).trans ((if_pos c_2).trans rfl))
      exact r_iret X I (e_i (h9).symm rfl rfl) dX8_strengthOf_32
    · skip
      refine lv_aload_n X.1 X.2.1 dX8_strengthOf_12 rfl (lv_at hl 0 rfl) ?_
      refine g8_0 X I (k := k) (Nat.lt_of_le_of_lt (Nat.add_le_add_left (show 0 ≤ 2 by decide) k) hk.1) hk.2.1 lf_X8_9 dX8_strengthOf_13 ?_
      refine r_sget X I 2 (by decide) (index := 39) (by decide +kernel) dX8_strengthOf_16 ?_
      refine lv_iconst (v := 2) X.1 X.2.1 dX8_strengthOf_19 (by decide) ?_
      refine r_ei I (r_runN X I pk_X11_cell (c11_cellS l G 2 (by decide) _ _ _) (by decide +kernel) rfl hl.1 rfl (Nat.le_of_ble_eq_true rfl) dX8_strengthOf_20 ⟨Nat.le_of_ble_eq_true rfl, Nat.le_of_ble_eq_true rfl⟩ ⟨Nat.le_refl 0, Nat.le_refl 0⟩) (fun H locs I => ?_)
      refine lv_iload_n X.1 X.2.1 dX8_strengthOf_23 rfl (lv_at hl 1 rfl) ?_
      refine lv_iadd X.1 X.2.1 dX8_strengthOf_24 ?_
      refine r_ei I (r_runN X I pk_X11_cell (c11_cell l G (k := (k + 1)) (n := 36) (Nat.lt_of_le_of_lt (Nat.add_le_add_left (show 1 ≤ 2 by decide) k) hk.1) hk.2.2.1 (by decide) _ _ _) (by decide +kernel) rfl hl.1 rfl (Nat.le_of_ble_eq_true rfl) dX8_strengthOf_25 ⟨Nat.le_of_ble_eq_true rfl, Nat.le_of_ble_eq_true rfl⟩ ⟨Nat.le_refl 0, Nat.le_refl 0⟩) (fun H locs I => ?_)
      refine lv_goto (tgt := 32) X.1 X.2.1 dX8_strengthOf_28 (by decide) ?_
      have h9 := hE.trans ((if_neg c_1).trans ((if_neg c_2).trans rfl))
      exact r_iret X I (e_i (h9).symm rfl rfl) dX8_strengthOf_32
def f8_strength_c4 (k : Nat) (σ : SI) : Nat → Int32 → Int32 → Int32
  | 0, _, _ => 0
  | fu + 1, v1, v2 => if (f8_bearers k σ) ≤ v2 then v1 else (f8_strength_c4 k σ fu (v1 + (f8_strengthOf k σ v2)) (v2 + 1))
def f8_strength (k : Nat) (σ : SI) : Int32 := (f8_strength_c4 k σ ((Int32.toInt (f8_bearers k σ) - Int32.toInt (0 : Int32)).toNat + 1) (0 : Int32) (0 : Int32))
set_option maxHeartbeats 4000000 in
set_option maxRecDepth 100000 in
theorem c8_strength_c4 {l : Launch} {p : Program} {e : Env} {s : State} {m : MethodId} {args : Array Value} {below : List Frame} {meth : Method} {c : Code} {G : GT} (X : CX p s m args meth c cX8_strength RX8 3 (some .int) G) {k : Nat} (hk : isTown k) {E : Int32} (σ : SI) (τ : SL) : ∀ (fu : Nat) (v1 : Int32) (v2 : Int32) (H : Heap) (locs : List Loc) (ls : Array Slot), IX G s H locs σ τ → lv_has ls 3 [(0, .ref (G.2.1 k)), (1, .int v1), (2, .int v2)] → (Int32.toInt (f8_bearers k σ) - Int32.toInt v2).toNat < fu → E = (f8_strength_c4 k σ fu v1 v2) → W p l e (rmN 3) s m args below meth c H locs 0 0 (MQ below ((Qi G (Ei E σ τ)) s.heap.size) args s 0 0 (AW G s.heap.size)) (F0 m 4 ls []) := by
  intro fu
  induction fu with
  | zero =>
    intro v1 v2 H locs ls I hl  hm hE
    exact absurd hm (Nat.not_lt_zero _)
  | succ fu ih =>
    intro v1 v2 H locs ls I hl  hm hE
    refine lv_iload_n X.1 X.2.1 dX8_strength_4 rfl (lv_at hl 2 rfl) ?_
    refine lv_aload_n X.1 X.2.1 dX8_strength_5 rfl (lv_at hl 0 rfl) ?_
    refine r_ei I (r_runV X I pk_X8_bearers (c8_bearers l G (k := k) hk _ _) lm_X8_58 (Nat.lt_of_le_of_lt (Nat.add_le_add_left (show 0 ≤ 2 by decide) k) hk.1) (cl_8 hk.2.1) rfl rfl rfl hl.1 rfl (Nat.le_of_ble_eq_true rfl) dX8_strength_6 ⟨Nat.le_of_ble_eq_true rfl, Nat.le_of_ble_eq_true rfl⟩ ⟨Nat.le_refl 0, Nat.le_refl 0⟩) (fun H locs I => ?_)
    refine lv_icmp_ge (tgt := 26) X.1 X.2.1 dX8_strength_9 (by decide) (fun c_1 => ?_) (fun c_1 => ?_)
    · skip
      refine lv_iload_n X.1 X.2.1 dX8_strength_26 rfl (lv_at hl 1 rfl) ?_
      have h9 := hE.trans ((if_pos c_1).trans rfl)
      exact r_iret X I (e_i (h9).symm rfl rfl) dX8_strength_27
    · skip
      refine lv_iload_n X.1 X.2.1 dX8_strength_12 rfl (lv_at hl 1 rfl) ?_
      refine lv_aload_n X.1 X.2.1 dX8_strength_13 rfl (lv_at hl 0 rfl) ?_
      refine lv_iload_n X.1 X.2.1 dX8_strength_14 rfl (lv_at hl 2 rfl) ?_
      refine r_ei I (r_runV X I pk_X8_strengthOf (c8_strengthOf l G (k := k) hk _ _ _) lm_X8_88 (Nat.lt_of_le_of_lt (Nat.add_le_add_left (show 0 ≤ 2 by decide) k) hk.1) (cl_8 hk.2.1) rfl rfl rfl hl.1 rfl (Nat.le_of_ble_eq_true rfl) dX8_strength_15 ⟨Nat.le_of_ble_eq_true rfl, Nat.le_of_ble_eq_true rfl⟩ ⟨Nat.le_refl 0, Nat.le_refl 0⟩) (fun H locs I => ?_)
      refine lv_iadd X.1 X.2.1 dX8_strength_18 ?_
      refine lv_istore_n (lv' := [(1, .int _), (0, .ref _), (2, .int _)]) X.1 X.2.1 dX8_strength_19 rfl hl (by decide) rfl (fun ls hl => ?_)
      refine lv_iinc (v := _ + 1) (lv' := [(2, .int _), (1, .int _), (0, .ref _)]) X.1 X.2.1 dX8_strength_20 hl (k := 2) rfl rfl (by decide) rfl (fun ls hl => ?_)
      refine lv_goto (tgt := 4) X.1 X.2.1 dX8_strength_23 (by decide) ?_
      exact ih _ _ _ _ _ I (lv_sub hl [2, 1, 0] rfl) (Nat.lt_of_lt_of_le (up_dec c_1) (Nat.le_of_lt_succ hm)) (hE.trans ((if_neg c_1).trans rfl))
set_option maxHeartbeats 4000000 in
set_option maxRecDepth 100000 in
theorem c8_strength (l : Launch) (G : GT) {k : Nat} (hk : isTown k) (σ : SI) (τ : SL) : Mc l yX8_strength cX8_strength 3 (some .int) 3 G [.ref (G.2.1 k)] σ τ (Qi G (Ei (f8_strength k σ) σ τ)) := by
  refine m_start (by decide +kernel) (Nat.le_of_ble_eq_true rfl) rfl (fun p e s m args below meth c ls X I hl => ?_)
  have hl : lv_has ls 3 [(0, .ref (G.2.1 k))] := hl
  obtain ⟨E, hE⟩ : ∃ E, E = (f8_strength k σ) := ⟨_, rfl⟩
  rw [← hE]
  refine lv_iconst (v := 0) X.1 X.2.1 dX8_strength_0 (by decide) ?_
  refine lv_istore_n (lv' := [(1, .int _), (0, .ref _)]) X.1 X.2.1 dX8_strength_1 rfl hl (by decide) rfl (fun ls hl => ?_)
  refine lv_iconst (v := 0) X.1 X.2.1 dX8_strength_2 (by decide) ?_
  refine lv_istore_n (lv' := [(2, .int _), (1, .int _), (0, .ref _)]) X.1 X.2.1 dX8_strength_3 rfl hl (by decide) rfl (fun ls hl => ?_)
  exact c8_strength_c4 X hk _ _  _ _ _ _ _ _ I (lv_sub hl [2, 1, 0] rfl) (Nat.lt_succ_self _) (hE.trans (rfl))
def f8_timeThereIs (k : Nat) (σ : SI) : Int32 := (f11_cell (k + 1) 36 σ (0 : Int32))
set_option maxHeartbeats 4000000 in
set_option maxRecDepth 100000 in
theorem c8_timeThereIs (l : Launch) (G : GT) {k : Nat} (hk : isTown k) (σ : SI) (τ : SL) : Mc l yX8_timeThereIs cX8_timeThereIs 1 (some .int) 1 G [.ref (G.2.1 k)] σ τ (Qi G (Ei (f8_timeThereIs k σ) σ τ)) := by
  refine m_start (by decide +kernel) (Nat.le_of_ble_eq_true rfl) rfl (fun p e s m args below meth c ls X I hl => ?_)
  have hl : lv_has ls 1 [(0, .ref (G.2.1 k))] := hl
  obtain ⟨E, hE⟩ : ∃ E, E = (f8_timeThereIs k σ) := ⟨_, rfl⟩
  rw [← hE]
  refine lv_aload_n X.1 X.2.1 dX8_timeThereIs_0 rfl (lv_at hl 0 rfl) ?_
  refine g8_0 X I (k := k) (Nat.lt_of_le_of_lt (Nat.add_le_add_left (show 0 ≤ 2 by decide) k) hk.1) hk.2.1 lf_X8_9 dX8_timeThereIs_1 ?_
  refine lv_iconst (v := 0) X.1 X.2.1 dX8_timeThereIs_4 (by decide) ?_
  refine r_ei I (r_runN X I pk_X11_cell (c11_cell l G (k := (k + 1)) (n := 36) (Nat.lt_of_le_of_lt (Nat.add_le_add_left (show 1 ≤ 2 by decide) k) hk.1) hk.2.2.1 (by decide) _ _ _) (by decide +kernel) rfl hl.1 rfl (Nat.le_of_ble_eq_true rfl) dX8_timeThereIs_5 ⟨Nat.le_of_ble_eq_true rfl, Nat.le_of_ble_eq_true rfl⟩ ⟨Nat.le_refl 0, Nat.le_refl 0⟩) (fun H locs I => ?_)
  have h9 := hE
  exact r_iret X I (e_i (h9).symm rfl rfl) dX8_timeThereIs_8
def f4_comesTo (σ : SI) (x1 : Int32) : Bool × SI := if (f8_isHouse 10 σ x1) = true then (if x1 = (σ 32 3) then (false, σ) else (if (f11_hasBit (σ 32 6) x1) = true then (false, σ) else (let r0 := (f2_standing σ (f0_grievanceOf 24 σ x1) (f8_isThankful 10 σ x1) ((σ 32 4) + (f8_distance 10 σ (σ 32 3) x1)) (fbitCount (σ 32 6)) (f8_distance 10 σ (σ 32 3) x1) (σ 24 6)); if (f8_timeThereIs 10 r0.2) < (((r0.2 32 4) + (f8_distance 10 σ (σ 32 3) x1)) + r0.1) then (false, r0.2) else (if ((r0.2 32 5) + (f8_distance 10 σ (σ 32 3) x1)) ≤ (f8_strength 10 r0.2) then (let s1 := (f4_stay r0.2 x1 (((r0.2 32 4) + (f8_distance 10 σ (σ 32 3) x1)) + r0.1) ((r0.2 32 5) + (f8_distance 10 σ (σ 32 3) x1)) ((r0.2 32 6) ||| ((1 : Int32) <<< (x1 &&& 31)))); let s2 := sp s1 32 7 r0.1; if (f8_isThankful 10 σ x1) = true then (let s4 := sp s2 32 8 (0 : Int32); (true, s4)) else (let s3 := sp s2 32 8 (if r0.1 < (f0_grievanceOf 24 σ x1) then r0.1 else (f0_grievanceOf 24 σ x1)); (true, s3))) else (false, r0.2))))) else (false, σ)
theorem w_f4_comesTo (σ : SI) (x1 : Int32) (a : Nat) (h0 : a ≠ 13) (h1 : a ≠ 15) (h2 : a ≠ 32) : (f4_comesTo σ x1).2 a = σ a := by
  unfold f4_comesTo
  (repeat' split) <;> (first | rfl | (simp only [sp_n, su_n, ne_eq, not_false_eq_true, h0, h1, h2, w_f2_standing, w_f4_stay]; done) | (simp [sp_n, su_n, ne_eq, not_false_eq_true, h0, h1, h2, w_f2_standing, w_f4_stay]; done))
set_option maxHeartbeats 4000000 in
set_option maxRecDepth 100000 in
theorem c4_comesTo (l : Launch) (G : GT) (σ : SI) (τ : SL) (x1 : Int32) : Mc l yX4_comesTo cX4_comesTo 6 (some .boolean) 6 G [.ref (G.2.1 32), .int x1] σ τ (Qi G (Ei (b2i (f4_comesTo σ x1).1) (f4_comesTo σ x1).2 τ)) := by
  refine m_start (by decide +kernel) (Nat.le_of_ble_eq_true rfl) rfl (fun p e s m args below meth c ls X I hl => ?_)
  have hl : lv_has ls 6 [(0, .ref (G.2.1 32)), (1, .int x1)] := hl
  obtain ⟨E, hE⟩ : ∃ E, E = (f4_comesTo σ x1) := ⟨_, rfl⟩
  rw [← hE]
  refine lv_aload_n X.1 X.2.1 dX4_comesTo_0 rfl (lv_at hl 0 rfl) ?_
  refine g4_0 X I (k := 32) (by decide) rfl lf_X4_9 dX4_comesTo_1 ?_
  refine lv_iload_n X.1 X.2.1 dX4_comesTo_4 rfl (lv_at hl 1 rfl) ?_
  refine r_ei I (r_runV X I pk_X8_isHouse (c8_isHouse l G (k := 10) ⟨by decide, rfl, rfl, rfl⟩ _ _ _) lm_X4_46 (by decide) (cl_8 rfl) rfl rfl rfl hl.1 rfl (Nat.le_of_ble_eq_true rfl) dX4_comesTo_5 ⟨Nat.le_of_ble_eq_true rfl, Nat.le_of_ble_eq_true rfl⟩ ⟨Nat.le_refl 0, Nat.le_refl 0⟩) (fun H locs I => ?_)
  refine lv_if_eq (tgt := 30) X.1 X.2.1 dX4_comesTo_8 (by decide) (fun c_1 => ?_) (fun c_1 => ?_)
  · skip
    refine lv_iconst (v := 0) X.1 X.2.1 dX4_comesTo_30 (by decide) ?_
    have h9 := hE.trans ((if_neg (b2i_n c_1)).trans rfl)
    exact r_zret X I rfl (e_i (congrArg b2i (congrArg Prod.fst h9)).symm (congrArg Prod.snd h9).symm rfl) dX4_comesTo_31
  · skip
    refine lv_iload_n X.1 X.2.1 dX4_comesTo_11 rfl (lv_at hl 1 rfl) ?_
    refine lv_aload_n X.1 X.2.1 dX4_comesTo_12 rfl (lv_at hl 0 rfl) ?_
    refine g4_3 X I (k := 32) (by decide) rfl lf_X4_42 dX4_comesTo_13 ?_
    refine lv_icmp_eq (tgt := 30) X.1 X.2.1 dX4_comesTo_16 (by decide) (fun c_2 => ?_) (fun c_2 => ?_)
    · skip
      refine lv_iconst (v := 0) X.1 X.2.1 dX4_comesTo_30 (by decide) ?_
      have h9 := hE.trans ((if_pos (b2i_y c_1)).trans ((if_pos c_2).trans rfl))
      exact r_zret X I rfl (e_i (congrArg b2i (congrArg Prod.fst h9)).symm (congrArg Prod.snd h9).symm rfl) dX4_comesTo_31
    · skip
      refine lv_aload_n X.1 X.2.1 dX4_comesTo_19 rfl (lv_at hl 0 rfl) ?_
      refine g4_6 X I (k := 32) (by decide) rfl lf_X4_45 dX4_comesTo_20 ?_
      refine lv_iload_n X.1 X.2.1 dX4_comesTo_23 rfl (lv_at hl 1 rfl) ?_
      refine r_ei I (r_runN X I pk_X11_hasBit (c11_hasBit l G _ _ _ _) (by decide +kernel) rfl hl.1 rfl (Nat.le_of_ble_eq_true rfl) dX4_comesTo_24 ⟨Nat.le_of_ble_eq_true rfl, Nat.le_of_ble_eq_true rfl⟩ ⟨Nat.le_refl 0, Nat.le_refl 0⟩) (fun H locs I => ?_)
      refine lv_if_eq (tgt := 32) X.1 X.2.1 dX4_comesTo_27 (by decide) (fun c_3 => ?_) (fun c_3 => ?_)
      · skip
        refine lv_aload_n X.1 X.2.1 dX4_comesTo_32 rfl (lv_at hl 0 rfl) ?_
        refine g4_0 X I (k := 32) (by decide) rfl lf_X4_9 dX4_comesTo_33 ?_
        refine lv_aload_n X.1 X.2.1 dX4_comesTo_36 rfl (lv_at hl 0 rfl) ?_
        refine g4_3 X I (k := 32) (by decide) rfl lf_X4_42 dX4_comesTo_37 ?_
        refine lv_iload_n X.1 X.2.1 dX4_comesTo_40 rfl (lv_at hl 1 rfl) ?_
        refine r_ei I (r_runV X I pk_X8_distance (c8_distance l G (k := 10) ⟨by decide, rfl, rfl, rfl⟩ _ _ _ _) lm_X4_56 (by decide) (cl_8 rfl) rfl rfl rfl hl.1 rfl (Nat.le_of_ble_eq_true rfl) dX4_comesTo_41 ⟨Nat.le_of_ble_eq_true rfl, Nat.le_of_ble_eq_true rfl⟩ ⟨Nat.le_refl 0, Nat.le_refl 0⟩) (fun H locs I => ?_)
        refine lv_istore_n (lv' := [(2, .int _), (0, .ref _), (1, .int _)]) X.1 X.2.1 dX4_comesTo_44 rfl hl (by decide) rfl (fun ls hl => ?_)
        refine lv_aload_n X.1 X.2.1 dX4_comesTo_45 rfl (lv_at hl 1 rfl) ?_
        refine g4_2 X I (k := 32) (by decide) rfl lf_X4_19 dX4_comesTo_46 ?_
        refine lv_iload_n X.1 X.2.1 dX4_comesTo_49 rfl (lv_at hl 2 rfl) ?_
        refine r_ei I (r_runV X I pk_X0_grievanceOf (c0_grievanceOf l G (k := 24) ⟨by decide, rfl, rfl⟩ _ _ _) lm_X4_60 (by decide) (cl_0 rfl) rfl rfl rfl hl.1 rfl (Nat.le_of_ble_eq_true rfl) dX4_comesTo_50 ⟨Nat.le_of_ble_eq_true rfl, Nat.le_of_ble_eq_true rfl⟩ ⟨Nat.le_refl 0, Nat.le_refl 0⟩) (fun H locs I => ?_)
        refine lv_istore_n (lv' := [(3, .int _), (2, .int _), (0, .ref _), (1, .int _)]) X.1 X.2.1 dX4_comesTo_53 rfl hl (by decide) rfl (fun ls hl => ?_)
        refine lv_aload_n X.1 X.2.1 dX4_comesTo_54 rfl (lv_at hl 2 rfl) ?_
        refine g4_0 X I (k := 32) (by decide) rfl lf_X4_9 dX4_comesTo_55 ?_
        refine lv_iload_n X.1 X.2.1 dX4_comesTo_58 rfl (lv_at hl 3 rfl) ?_
        refine r_ei I (r_runV X I pk_X8_isThankful (c8_isThankful l G (k := 10) ⟨by decide, rfl, rfl, rfl⟩ _ _ _) lm_X4_64 (by decide) (cl_8 rfl) rfl rfl rfl hl.1 rfl (Nat.le_of_ble_eq_true rfl) dX4_comesTo_59 ⟨Nat.le_of_ble_eq_true rfl, Nat.le_of_ble_eq_true rfl⟩ ⟨Nat.le_refl 0, Nat.le_refl 0⟩) (fun H locs I => ?_)
        refine lv_istore (lv' := [(4, .int _), (3, .int _), (2, .int _), (0, .ref _), (1, .int _)]) X.1 X.2.1 dX4_comesTo_62 hl (by decide) rfl (fun ls hl => ?_)
        refine lv_aload_n X.1 X.2.1 dX4_comesTo_64 rfl (lv_at hl 3 rfl) ?_
        refine g4_1 X I (k := 32) (by decide) rfl lf_X4_15 dX4_comesTo_65 ?_
        refine lv_iload_n X.1 X.2.1 dX4_comesTo_68 rfl (lv_at hl 1 rfl) ?_
        refine lv_iload X.1 X.2.1 dX4_comesTo_69 (lv_at hl 0 rfl) ?_
        refine lv_aload_n X.1 X.2.1 dX4_comesTo_71 rfl (lv_at hl 3 rfl) ?_
        refine g4_4 X I (k := 32) (by decide) rfl lf_X4_43 dX4_comesTo_72 ?_
        refine lv_iload_n X.1 X.2.1 dX4_comesTo_75 rfl (lv_at hl 2 rfl) ?_
        refine lv_iadd X.1 X.2.1 dX4_comesTo_76 ?_
        refine lv_aload_n X.1 X.2.1 dX4_comesTo_77 rfl (lv_at hl 3 rfl) ?_
        refine g4_6 X I (k := 32) (by decide) rfl lf_X4_45 dX4_comesTo_78 ?_
        refine r_ei I (r_runS X I pk_J6_bitCount_0f7a4 (cbitCount l G _ _ _) lm_X4_67 rfl hl.1 rfl (Nat.le_of_ble_eq_true rfl) dX4_comesTo_81 ⟨Nat.le_of_ble_eq_true rfl, Nat.le_of_ble_eq_true rfl⟩ ⟨Nat.le_refl 0, Nat.le_refl 0⟩) (fun H locs I => ?_)
        refine lv_iload_n X.1 X.2.1 dX4_comesTo_84 rfl (lv_at hl 2 rfl) ?_
        refine lv_aload_n X.1 X.2.1 dX4_comesTo_85 rfl (lv_at hl 3 rfl) ?_
        refine g4_2 X I (k := 32) (by decide) rfl lf_X4_19 dX4_comesTo_86 ?_
        refine g0_6 X I (k := 24) (by decide) rfl lf_X4_72 dX4_comesTo_89 ?_
        refine r_ei I (r_runV X I pk_X2_standing (c2_standing l G _ _ _ _ _ _ _ _) lm_X4_75 (by decide) (cl_2 rfl) rfl rfl rfl hl.1 rfl (Nat.le_of_ble_eq_true rfl) dX4_comesTo_92 ⟨Nat.le_of_ble_eq_true rfl, Nat.le_of_ble_eq_true rfl⟩ ⟨Nat.le_refl 0, Nat.le_refl 0⟩) (fun H locs I => ?_)
        refine lv_istore (lv' := [(5, .int _), (4, .int _), (3, .int _), (2, .int _), (0, .ref _), (1, .int _)]) X.1 X.2.1 dX4_comesTo_95 hl (by decide) rfl (fun ls hl => ?_)
        refine lv_aload_n X.1 X.2.1 dX4_comesTo_97 rfl (lv_at hl 4 rfl) ?_
        refine g4_4 X I (k := 32) (by decide) rfl lf_X4_43 dX4_comesTo_98 ?_
        refine lv_iload_n X.1 X.2.1 dX4_comesTo_101 rfl (lv_at hl 3 rfl) ?_
        refine lv_iadd X.1 X.2.1 dX4_comesTo_102 ?_
        refine lv_iload X.1 X.2.1 dX4_comesTo_103 (lv_at hl 0 rfl) ?_
        refine lv_iadd X.1 X.2.1 dX4_comesTo_105 ?_
        refine lv_aload_n X.1 X.2.1 dX4_comesTo_106 rfl (lv_at hl 4 rfl) ?_
        refine g4_0 X I (k := 32) (by decide) rfl lf_X4_9 dX4_comesTo_107 ?_
        refine r_ei I (r_runV X I pk_X8_timeThereIs (c8_timeThereIs l G (k := 10) ⟨by decide, rfl, rfl, rfl⟩ _ _) lm_X4_81 (by decide) (cl_8 rfl) rfl rfl rfl hl.1 rfl (Nat.le_of_ble_eq_true rfl) dX4_comesTo_110 ⟨Nat.le_of_ble_eq_true rfl, Nat.le_of_ble_eq_true rfl⟩ ⟨Nat.le_refl 0, Nat.le_refl 0⟩) (fun H locs I => ?_)
        refine lv_icmp_gt (tgt := 132) X.1 X.2.1 dX4_comesTo_113 (by decide) (fun c_4 => ?_) (fun c_4 => ?_)
        · skip
          refine lv_iconst (v := 0) X.1 X.2.1 dX4_comesTo_132 (by decide) ?_
          have h9 := hE.trans ((if_pos (b2i_y c_1)).trans ((if_neg c_2).trans ((if_neg (b2i_n c_3)).trans ((if_pos c_4).trans rfl))))
          exact r_zret X I rfl (e_i (congrArg b2i (congrArg Prod.fst h9)).symm (congrArg Prod.snd h9).symm rfl) dX4_comesTo_133
        · skip
          refine lv_aload_n X.1 X.2.1 dX4_comesTo_116 rfl (lv_at hl 4 rfl) ?_
          refine g4_5 X I (k := 32) (by decide) rfl lf_X4_44 dX4_comesTo_117 ?_
          refine lv_iload_n X.1 X.2.1 dX4_comesTo_120 rfl (lv_at hl 3 rfl) ?_
          refine lv_iadd X.1 X.2.1 dX4_comesTo_121 ?_
          refine lv_aload_n X.1 X.2.1 dX4_comesTo_122 rfl (lv_at hl 4 rfl) ?_
          refine g4_0 X I (k := 32) (by decide) rfl lf_X4_9 dX4_comesTo_123 ?_
          refine r_ei I (r_runV X I pk_X8_strength (c8_strength l G (k := 10) ⟨by decide, rfl, rfl, rfl⟩ _ _) lm_X4_85 (by decide) (cl_8 rfl) rfl rfl rfl hl.1 rfl (Nat.le_of_ble_eq_true rfl) dX4_comesTo_126 ⟨Nat.le_of_ble_eq_true rfl, Nat.le_of_ble_eq_true rfl⟩ ⟨Nat.le_refl 0, Nat.le_refl 0⟩) (fun H locs I => ?_)
          refine lv_icmp_le (tgt := 134) X.1 X.2.1 dX4_comesTo_129 (by decide) (fun c_5 => ?_) (fun c_5 => ?_)
          · skip
            refine lv_aload_n X.1 X.2.1 dX4_comesTo_134 rfl (lv_at hl 4 rfl) ?_
            refine lv_iload_n X.1 X.2.1 dX4_comesTo_135 rfl (lv_at hl 5 rfl) ?_
            refine lv_aload_n X.1 X.2.1 dX4_comesTo_136 rfl (lv_at hl 4 rfl) ?_
            refine g4_4 X I (k := 32) (by decide) rfl lf_X4_43 dX4_comesTo_137 ?_
            refine lv_iload_n X.1 X.2.1 dX4_comesTo_140 rfl (lv_at hl 3 rfl) ?_
            refine lv_iadd X.1 X.2.1 dX4_comesTo_141 ?_
            refine lv_iload X.1 X.2.1 dX4_comesTo_142 (lv_at hl 0 rfl) ?_
            refine lv_iadd X.1 X.2.1 dX4_comesTo_144 ?_
            refine lv_aload_n X.1 X.2.1 dX4_comesTo_145 rfl (lv_at hl 4 rfl) ?_
            refine g4_5 X I (k := 32) (by decide) rfl lf_X4_44 dX4_comesTo_146 ?_
            refine lv_iload_n X.1 X.2.1 dX4_comesTo_149 rfl (lv_at hl 3 rfl) ?_
            refine lv_iadd X.1 X.2.1 dX4_comesTo_150 ?_
            refine lv_aload_n X.1 X.2.1 dX4_comesTo_151 rfl (lv_at hl 4 rfl) ?_
            refine g4_6 X I (k := 32) (by decide) rfl lf_X4_45 dX4_comesTo_152 ?_
            refine lv_iconst (v := 1) X.1 X.2.1 dX4_comesTo_155 (by decide) ?_
            refine lv_iload_n X.1 X.2.1 dX4_comesTo_156 rfl (lv_at hl 5 rfl) ?_
            refine lv_ishl X.1 X.2.1 dX4_comesTo_157 ?_
            refine lv_ior X.1 X.2.1 dX4_comesTo_158 ?_
            refine r_ev I (r_runV X I pk_X4_stay (c4_stay l G _ _ _ _ _ _) lm_X4_38 (by decide) (cl_4 rfl) rfl rfl rfl hl.1 rfl (Nat.le_of_ble_eq_true rfl) dX4_comesTo_159 ⟨Nat.le_of_ble_eq_true rfl, Nat.le_of_ble_eq_true rfl⟩ ⟨Nat.le_refl 0, Nat.le_refl 0⟩) (fun H locs I => ?_)
            refine lv_aload_n X.1 X.2.1 dX4_comesTo_162 rfl (lv_at hl 4 rfl) ?_
            refine lv_iload X.1 X.2.1 dX4_comesTo_163 (lv_at hl 0 rfl) ?_
            refine p4_7 X I (k := 32) (by decide) rfl lf_X4_88 dX4_comesTo_165 (fun H locs I => ?_)
            refine lv_aload_n X.1 X.2.1 dX4_comesTo_168 rfl (lv_at hl 4 rfl) ?_
            refine lv_iload X.1 X.2.1 dX4_comesTo_169 (lv_at hl 1 rfl) ?_
            refine lv_if_eq (tgt := 178) X.1 X.2.1 dX4_comesTo_171 (by decide) (fun c_6 => ?_) (fun c_6 => ?_)
            · skip
              refine lv_iload_n X.1 X.2.1 dX4_comesTo_178 rfl (lv_at hl 2 rfl) ?_
              refine lv_iload X.1 X.2.1 dX4_comesTo_179 (lv_at hl 0 rfl) ?_
              refine r_mmin X hl.1 lm_X4_91 ls_J9_min_7cf53 ln_J9 lc_J9_min_7cf53 (Nat.le_of_ble_eq_true rfl) (Nat.le_of_ble_eq_true rfl) (Nat.le_refl 0) (Nat.le_refl 0) dX4_comesTo_181 ?_
              refine p4_8 X I (k := 32) (by decide) rfl lf_X4_96 dX4_comesTo_184 (fun H locs I => ?_)
              refine lv_iconst (v := 1) X.1 X.2.1 dX4_comesTo_187 (by decide) ?_
              have h9 := hE.trans ((if_pos (b2i_y c_1)).trans ((if_neg c_2).trans ((if_neg (b2i_n c_3)).trans ((if_neg c_4).trans ((if_pos c_5).trans ((if_neg (b2i_n c_6)).trans rfl))))))
              exact r_zret X I rfl (e_i (congrArg b2i (congrArg Prod.fst h9)).symm (congrArg Prod.snd h9).symm rfl) dX4_comesTo_188
            · skip
              refine lv_iconst (v := 0) X.1 X.2.1 dX4_comesTo_174 (by decide) ?_
              refine lv_goto (tgt := 184) X.1 X.2.1 dX4_comesTo_175 (by decide) ?_
              refine p4_8 X I (k := 32) (by decide) rfl lf_X4_96 dX4_comesTo_184 (fun H locs I => ?_)
              refine lv_iconst (v := 1) X.1 X.2.1 dX4_comesTo_187 (by decide) ?_
              have h9 := hE.trans ((if_pos (b2i_y c_1)).trans ((if_neg c_2).trans ((if_neg (b2i_n c_3)).trans ((if_neg c_4).trans ((if_pos c_5).trans ((if_pos (b2i_y c_6)).trans rfl))))))
              exact r_zret X I rfl (e_i (congrArg b2i (congrArg Prod.fst h9)).symm (congrArg Prod.snd h9).symm rfl) dX4_comesTo_188
          · skip
            refine lv_iconst (v := 0) X.1 X.2.1 dX4_comesTo_132 (by decide) ?_
            have h9 := hE.trans ((if_pos (b2i_y c_1)).trans ((if_neg c_2).trans ((if_neg (b2i_n c_3)).trans ((if_neg c_4).trans ((if_neg c_5).trans rfl)))))
            exact r_zret X I rfl (e_i (congrArg b2i (congrArg Prod.fst h9)).symm (congrArg Prod.snd h9).symm rfl) dX4_comesTo_133
      · skip
        refine lv_iconst (v := 0) X.1 X.2.1 dX4_comesTo_30 (by decide) ?_
        have h9 := hE.trans ((if_pos (b2i_y c_1)).trans ((if_neg c_2).trans ((if_pos (b2i_y c_3)).trans rfl)))
        exact r_zret X I rfl (e_i (congrArg b2i (congrArg Prod.fst h9)).symm (congrArg Prod.snd h9).symm rfl) dX4_comesTo_31
