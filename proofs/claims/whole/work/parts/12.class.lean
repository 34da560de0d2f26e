def f4_consider (σ : SI) (x1 : Int32) (x2 : Int32) (x3 : Int32) : SI := if (σ 32 11) < x3 then (let s0 := sp σ 32 9 x2; let s1 := sp s0 32 10 x1; let s2 := sp s1 32 11 x3; let s3 := sp s2 32 12 (σ 32 4); s3) else (if x3 = (σ 32 11) then (if (σ 32 10) ≤ x1 then σ else (let s4 := sp σ 32 9 x2; let s5 := sp s4 32 10 x1; let s6 := sp s5 32 11 x3; let s7 := sp s6 32 12 (σ 32 4); s7)) else σ)
theorem w_f4_consider (σ : SI) (x1 : Int32) (x2 : Int32) (x3 : Int32) (a : Nat) (h0 : a ≠ 32) : (f4_consider σ x1 x2 x3) a = σ a := by
  unfold f4_consider
  (repeat' split) <;> (first | rfl | (simp only [sp_n, su_n, ne_eq, not_false_eq_true, h0]; done) | (simp [sp_n, su_n, ne_eq, not_false_eq_true, h0]; done))
set_option maxHeartbeats 4000000 in
set_option maxRecDepth 100000 in
theorem c4_consider (l : Launch) (G : GT) (σ : SI) (τ : SL) (x1 : Int32) (x2 : Int32) (x3 : Int32) : Mc l yX4_consider cX4_consider 4 none 0 G [.ref (G.2.1 32), .int x1, .int x2, .int x3] σ τ (Qv G (Ev (f4_consider σ x1 x2 x3) τ)) := by
  refine m_start (by decide +kernel) (Nat.le_of_ble_eq_true rfl) rfl (fun p e s m args below meth c ls X I hl => ?_)
  have hl : lv_has ls 4 [(0, .ref (G.2.1 32)), (1, .int x1), (2, .int x2), (3, .int x3)] := hl
  obtain ⟨E, hE⟩ : ∃ E, E = (f4_consider σ x1 x2 x3) := ⟨_, rfl⟩
  rw [← hE]
  refine lv_iload_n X.1 X.2.1 dX4_consider_0 rfl (lv_at hl 3 rfl) ?_
  refine lv_aload_n X.1 X.2.1 dX4_consider_1 rfl (lv_at hl 0 rfl) ?_
  refine g4_11 X I (k := 32) (by decide) rfl lf_X4_108 dX4_consider_2 ?_
  refine lv_icmp_gt (tgt := 24) X.1 X.2.1 dX4_consider_5 (by decide) (fun c_1 => ?_) (fun c_1 => ?_)
  · skip
    refine lv_aload_n X.1 X.2.1 dX4_consider_24 rfl (lv_at hl 0 rfl) ?_
    refine lv_iload_n X.1 X.2.1 dX4_consider_25 rfl (lv_at hl 2 rfl) ?_
    refine p4_9 X I (k := 32) (by decide) rfl lf_X4_102 dX4_consider_26 (fun H locs I => ?_)
    refine lv_aload_n X.1 X.2.1 dX4_consider_29 rfl (lv_at hl 0 rfl) ?_
    refine lv_iload_n X.1 X.2.1 dX4_consider_30 rfl (lv_at hl 1 rfl) ?_
    refine p4_10 X I (k := 32) (by decide) rfl lf_X4_105 dX4_consider_31 (fun H locs I => ?_)
    refine lv_aload_n X.1 X.2.1 dX4_consider_34 rfl (lv_at hl 0 rfl) ?_
    refine lv_iload_n X.1 X.2.1 dX4_consider_35 rfl (lv_at hl 3 rfl) ?_
    refine p4_11 X I (k := 32) (by decide) rfl lf_X4_108 dX4_consider_36 (fun H locs I => ?_)
    refine lv_aload_n X.1 X.2.1 dX4_consider_39 rfl (lv_at hl 0 rfl) ?_
    refine lv_aload_n X.1 X.2.1 dX4_consider_40 rfl (lv_at hl 0 rfl) ?_
    refine g4_4 X I (k := 32) (by decide) rfl lf_X4_43 dX4_consider_41 ?_
    refine p4_12 X I (k := 32) (by decide) rfl lf_X4_111 dX4_consider_44 (fun H locs I => ?_)
    have h9 := hE.trans ((if_pos c_1).trans rfl)
    exact r_vret X I (e_v (h9).symm rfl) dX4_consider_47
  · skip
    refine lv_iload_n X.1 X.2.1 dX4_consider_8 rfl (lv_at hl 3 rfl) ?_
    refine lv_aload_n X.1 X.2.1 dX4_consider_9 rfl (lv_at hl 0 rfl) ?_
    refine g4_11 X I (k := 32) (by decide) rfl lf_X4_108 dX4_consider_10 ?_
    refine lv_icmp_ne (tgt := 47) X.1 X.2.1 dX4_consider_13 (by decide) (fun c_2 => ?_) (fun c_2 => ?_)
    · skip
      have h9 := hE.trans ((if_neg c_1).trans ((if_neg c_2).trans rfl))
      exact r_vret X I (e_v (h9).symm rfl) dX4_consider_47
    · skip
      refine lv_iload_n X.1 X.2.1 dX4_consider_16 rfl (lv_at hl 1 rfl) ?_
      refine lv_aload_n X.1 X.2.1 dX4_consider_17 rfl (lv_at hl 0 rfl) ?_
      refine g4_10 X I (k := 32) (by decide) rfl lf_X4_105 dX4_consider_18 ?_
      refine lv_icmp_ge (tgt := 47) X.1 X.2.1 dX4_consider_21 (by decide) (fun c_3 => ?_) (fun c_3 => ?_)
      · skip
        have h9 := hE.trans ((if_neg c_1).trans ((if_pos c_2).trans ((if_pos c_3).trans rfl)))
        exact r_vret X I (e_v (h9).symm rfl) dX4_consider_47
      · skip
        refine lv_aload_n X.1 X.2.1 dX4_consider_24 rfl (lv_at hl 0 rfl) ?_
        refine lv_iload_n X.1 X.2.1 dX4_consider_25 rfl (lv_at hl 2 rfl) ?_
        refine p4_9 X I (k := 32) (by decide) rfl lf_X4_102 dX4_consider_26 (fun H locs I => ?_)
        refine lv_aload_n X.1 X.2.1 dX4_consider_29 rfl (lv_at hl 0 rfl) ?_
        refine lv_iload_n X.1 X.2.1 dX4_consider_30 rfl (lv_at hl 1 rfl) ?_
        refine p4_10 X I (k := 32) (by decide) rfl lf_X4_105 dX4_consider_31 (fun H locs I => ?_)
        refine lv_aload_n X.1 X.2.1 dX4_consider_34 rfl (lv_at hl 0 rfl) ?_
        refine lv_iload_n X.1 X.2.1 dX4_consider_35 rfl (lv_at hl 3 rfl) ?_
        refine p4_11 X I (k := 32) (by decide) rfl lf_X4_108 dX4_consider_36 (fun H locs I => ?_)
        refine lv_aload_n X.1 X.2.1 dX4_consider_39 rfl (lv_at hl 0 rfl) ?_
        refine lv_aload_n X.1 X.2.1 dX4_consider_40 rfl (lv_at hl 0 rfl) ?_
        refine g4_4 X I (k := 32) (by decide) rfl lf_X4_43 dX4_consider_41 ?_
        refine p4_12 X I (k := 32) (by decide) rfl lf_X4_111 dX4_consider_44 (fun H locs I => ?_)
        have h9 := hE.trans ((if_neg c_1).trans ((if_pos c_2).trans ((if_neg c_3).trans rfl)))
        exact r_vret X I (e_v (h9).symm rfl) dX4_consider_47
def f4_isHopeless_c5 (σ : SI) (x1 : Int32) (x2 : Int32) : Nat → Int32 → Int32 → Bool
  | 0, _, _ => false
  | fu + 1, v3, v4 => if (f8_houses 10 σ) ≤ v4 then (if v3 < (σ 32 11) then true else (if v3 = (σ 32 11) then (if (x1 + (1 : Int32)) < (σ 32 10) then false else true) else false)) else (if (f11_hasBit (σ 32 6) v4) = true then (f4_isHopeless_c5 σ x1 x2 fu v3 (v4 + 1)) else (if (f8_isThankful 10 σ v4) = true then (f4_isHopeless_c5 σ x1 x2 fu v3 (v4 + 1)) else (f4_isHopeless_c5 σ x1 x2 fu (v3 + (f0_grievanceOf 24 σ v4)) (v4 + 1))))
def f4_isHopeless (σ : SI) (x1 : Int32) (x2 : Int32) : Bool := (f4_isHopeless_c5 σ x1 x2 ((Int32.toInt (f8_houses 10 σ) - Int32.toInt (0 : Int32)).toNat + 1) x2 (0 : Int32))
set_option maxHeartbeats 4000000 in
set_option maxRecDepth 100000 in
theorem c4_isHopeless_c5 {l : Launch} {p : Program} {e : Env} {s : State} {m : MethodId} {args : Array Value} {below : List Frame} {meth : Method} {c : Code} {G : GT} (X : CX p s m args meth c cX4_isHopeless RX4 5 (some .boolean) G) {E : Bool} (σ : SI) (τ : SL) (x1 : Int32) (x2 : Int32) : ∀ (fu : Nat) (v3 : Int32) (v4 : Int32) (H : Heap) (locs : List Loc) (ls : Array Slot), IX G s H locs σ τ → lv_has ls 5 [(0, .ref (G.2.1 32)), (1, .int x1), (2, .int x2), (3, .int v3), (4, .int v4)] → (Int32.toInt (f8_houses 10 σ) - Int32.toInt v4).toNat < fu → E = (f4_isHopeless_c5 σ x1 x2 fu v3 v4) → W p l e (rmN 5) s m args below meth c H locs 0 0 (MQ below ((Qi G (Ei (b2i E) σ τ)) s.heap.size) args s 0 0 (AW G s.heap.size)) (F0 m 5 ls []) := by
  intro fu
  induction fu with
  | zero =>
    intro v3 v4 H locs ls I hl  hm hE
    exact absurd hm (Nat.not_lt_zero _)
  | succ fu ih =>
    intro v3 v4 H locs ls I hl  hm hE
    refine lv_iload X.1 X.2.1 dX4_isHopeless_5 (lv_at hl 4 rfl) ?_
    refine lv_aload_n X.1 X.2.1 dX4_isHopeless_7 rfl (lv_at hl 0 rfl) ?_
    refine g4_0 X I (k := 32) (by decide) rfl lf_X4_9 dX4_isHopeless_8 ?_
    refine r_ei I (r_runV X I pk_X8_houses (c8_houses l G (k := 10) ⟨by decide, rfl, rfl, rfl⟩ _ _) lm_X4_121 (by decide) (cl_8 rfl) rfl rfl rfl hl.1 rfl (Nat.le_of_ble_eq_true rfl) dX4_isHopeless_11 ⟨Nat.le_of_ble_eq_true rfl, Nat.le_of_ble_eq_true rfl⟩ ⟨Nat.le_refl 0, Nat.le_refl 0⟩) (fun H locs I => ?_)
    refine lv_icmp_ge (tgt := 59) X.1 X.2.1 dX4_isHopeless_14 (by decide) (fun c_1 => ?_) (fun c_1 => ?_)
    · skip
      refine lv_iload_n X.1 X.2.1 dX4_isHopeless_59 rfl (lv_at hl 3 rfl) ?_
      refine lv_aload_n X.1 X.2.1 dX4_isHopeless_60 rfl (lv_at hl 0 rfl) ?_
      refine g4_11 X I (k := 32) (by decide) rfl lf_X4_108 dX4_isHopeless_61 ?_
      refine lv_icmp_lt (tgt := 85) X.1 X.2.1 dX4_isHopeless_64 (by decide) (fun c_2 => ?_) (fun c_2 => ?_)
      · skip
        refine lv_iconst (v := 1) X.1 X.2.1 dX4_isHopeless_85 (by decide) ?_
        refine lv_goto (tgt := 90) X.1 X.2.1 dX4_isHopeless_86 (by decide) ?_
        have h9 := hE.trans ((if_pos c_1).trans ((if_pos c_2).trans rfl))
        exact r_zret X I rfl (e_i (congrArg b2i (h9)).symm rfl rfl) dX4_isHopeless_90
      · skip
        refine lv_iload_n X.1 X.2.1 dX4_isHopeless_67 rfl (lv_at hl 3 rfl) ?_
        refine lv_aload_n X.1 X.2.1 dX4_isHopeless_68 rfl (lv_at hl 0 rfl) ?_
        refine g4_11 X I (k := 32) (by decide) rfl lf_X4_108 dX4_isHopeless_69 ?_
        refine lv_icmp_ne (tgt := 89) X.1 X.2.1 dX4_isHopeless_72 (by decide) (fun c_3 => ?_) (fun c_3 => ?_)
        · skip
          refine lv_iconst (v := 0) X.1 X.2.1 dX4_isHopeless_89 (by decide) ?_
          have h9 := hE.trans ((if_pos c_1).trans ((if_neg c_2).trans ((if_neg c_3).trans rfl)))
          exact r_zret X I rfl (e_i (congrArg b2i (h9)).symm rfl rfl) dX4_isHopeless_90
        · skip
          refine lv_iload_n X.1 X.2.1 dX4_isHopeless_75 rfl (lv_at hl 1 rfl) ?_
          refine lv_iconst (v := 1) X.1 X.2.1 dX4_isHopeless_76 (by decide) ?_
          refine lv_iadd X.1 X.2.1 dX4_isHopeless_77 ?_
          refine lv_aload_n X.1 X.2.1 dX4_isHopeless_78 rfl (lv_at hl 0 rfl) ?_
          refine g4_10 X I (k := 32) (by decide) rfl lf_X4_105 dX4_isHopeless_79 ?_
          refine lv_icmp_lt (tgt := 89) X.1 X.2.1 dX4_isHopeless_82 (by decide) (fun c_4 => ?_) (fun c_4 => ?_)
          · skip
            refine lv_iconst (v := 0) X.1 X.2.1 dX4_isHopeless_89 (by decide) ?_
            have h9 := hE.trans ((if_pos c_1).trans ((if_neg c_2).trans ((if_pos c_3).trans ((if_pos c_4).trans rfl))))
            exact r_zret X I rfl (e_i (congrArg b2i (h9)).symm rfl rfl) dX4_isHopeless_90
          · skip
            refine lv_iconst (v := 1) X.1 X.2.1 dX4_isHopeless_85 (by decide) ?_
            refine lv_goto (tgt := 90) X.1 X.2.1 dX4_isHopeless_86 (by decide) ?_
            have h9 := hE.trans ((if_pos c_1).trans ((if_neg c_2).trans ((if_pos c_3).trans ((if_neg c_4).trans rfl))))
            exact r_zret X I rfl (e_i (congrArg b2i (h9)).symm rfl rfl) dX4_isHopeless_90
    · skip
      refine lv_aload_n X.1 X.2.1 dX4_isHopeless_17 rfl (lv_at hl 0 rfl) ?_
      refine g4_6 X I (k := 32) (by decide) rfl lf_X4_45 dX4_isHopeless_18 ?_
      refine lv_iload X.1 X.2.1 dX4_isHopeless_21 (lv_at hl 4 rfl) ?_
      refine r_ei I (r_runN X I pk_X11_hasBit (c11_hasBit l G _ _ _ _) (by decide +kernel) rfl hl.1 rfl (Nat.le_of_ble_eq_true rfl) dX4_isHopeless_23 ⟨Nat.le_of_ble_eq_true rfl, Nat.le_of_ble_eq_true rfl⟩ ⟨Nat.le_refl 0, Nat.le_refl 0⟩) (fun H locs I => ?_)
      refine lv_if_ne (tgt := 53) X.1 X.2.1 dX4_isHopeless_26 (by decide) (fun c_5 => ?_) (fun c_5 => ?_)
      · skip
        refine lv_iinc (v := _ + 1) (lv' := [(4, .int _), (0, .ref _), (1, .int _), (2, .int _), (3, .int _)]) X.1 X.2.1 dX4_isHopeless_53 hl (k := 4) rfl rfl (by decide) rfl (fun ls hl => ?_)
        refine lv_goto (tgt := 5) X.1 X.2.1 dX4_isHopeless_56 (by decide) ?_
        exact ih _ _ _ _ _ I (lv_sub hl [1, 2, 3, 4, 0] rfl) (Nat.lt_of_lt_of_le (up_dec c_1) (Nat.le_of_lt_succ hm)) (hE.trans ((if_neg c_1).trans ((if_pos (b2i_y c_5)).trans rfl)))
      · skip
        refine lv_aload_n X.1 X.2.1 dX4_isHopeless_29 rfl (lv_at hl 0 rfl) ?_
        refine g4_0 X I (k := 32) (by decide) rfl lf_X4_9 dX4_isHopeless_30 ?_
        refine lv_iload X.1 X.2.1 dX4_isHopeless_33 (lv_at hl 4 rfl) ?_
        refine r_ei I (r_runV X I pk_X8_isThankful (c8_isThankful l G (k := 10) ⟨by decide, rfl, rfl, rfl⟩ _ _ _) lm_X4_64 (by decide) (cl_8 rfl) rfl rfl rfl hl.1 rfl (Nat.le_of_ble_eq_true rfl) dX4_isHopeless_35 ⟨Nat.le_of_ble_eq_true rfl, Nat.le_of_ble_eq_true rfl⟩ ⟨Nat.le_refl 0, Nat.le_refl 0⟩) (fun H locs I => ?_)
        refine lv_if_ne (tgt := 53) X.1 X.2.1 dX4_isHopeless_38 (by decide) (fun c_6 => ?_) (fun c_6 => ?_)
        · skip
          refine lv_iinc (v := _ + 1) (lv' := [(4, .int _), (0, .ref _), (1, .int _), (2, .int _), (3, .int _)]) X.1 X.2.1 dX4_isHopeless_53 hl (k := 4) rfl rfl (by decide) rfl (fun ls hl => ?_)
          refine lv_goto (tgt := 5) X.1 X.2.1 dX4_isHopeless_56 (by decide) ?_
          exact ih _ _ _ _ _ I (lv_sub hl [1, 2, 3, 4, 0] rfl) (Nat.lt_of_lt_of_le (up_dec c_1) (Nat.le_of_lt_succ hm)) (hE.trans ((if_neg c_1).trans ((if_neg (b2i_n c_5)).trans ((if_pos (b2i_y c_6)).trans rfl))))
        · skip
          refine lv_iload_n X.1 X.2.1 dX4_isHopeless_41 rfl (lv_at hl 3 rfl) ?_
          refine lv_aload_n X.1 X.2.1 dX4_isHopeless_42 rfl (lv_at hl 0 rfl) ?_
          refine g4_2 X I (k := 32) (by decide) rfl lf_X4_19 dX4_isHopeless_43 ?_
          refine lv_iload X.1 X.2.1 dX4_isHopeless_46 (lv_at hl 4 rfl) ?_
          refine r_ei I (r_runV X I pk_X0_grievanceOf (c0_grievanceOf l G (k := 24) ⟨by decide, rfl, rfl⟩ _ _ _) lm_X4_60 (by decide) (cl_0 rfl) rfl rfl rfl hl.1 rfl (Nat.le_of_ble_eq_true rfl) dX4_isHopeless_48 ⟨Nat.le_of_ble_eq_true rfl, Nat.le_of_ble_eq_true rfl⟩ ⟨Nat.le_refl 0, Nat.le_refl 0⟩) (fun H locs I => ?_)
          refine lv_iadd X.1 X.2.1 dX4_isHopeless_51 ?_
          refine lv_istore_n (lv' := [(3, .int _), (0, .ref _), (1, .int _), (2, .int _), (4, .int _)]) X.1 X.2.1 dX4_isHopeless_52 rfl hl (by decide) rfl (fun ls hl => ?_)
          refine lv_iinc (v := _ + 1) (lv' := [(4, .int _), (3, .int _), (0, .ref _), (1, .int _), (2, .int _)]) X.1 X.2.1 dX4_isHopeless_53 hl (k := 4) rfl rfl (by decide) rfl (fun ls hl => ?_)
          refine lv_goto (tgt := 5) X.1 X.2.1 dX4_isHopeless_56 (by decide) ?_
          exact ih _ _ _ _ _ I (lv_sub hl [2, 3, 4, 1, 0] rfl) (Nat.lt_of_lt_of_le (up_dec c_1) (Nat.le_of_lt_succ hm)) (hE.trans ((if_neg c_1).trans ((if_neg (b2i_n c_5)).trans ((if_neg (b2i_n c_6)).trans rfl))))
set_option maxHeartbeats 4000000 in
set_option maxRecDepth 100000 in
theorem c4_isHopeless (l : Launch) (G : GT) (σ : SI) (τ : SL) (x1 : Int32) (x2 : Int32) : Mc l yX4_isHopeless cX4_isHopeless 5 (some .boolean) 5 G [.ref (G.2.1 32), .int x1, .int x2] σ τ (Qi G (Ei (b2i (f4_isHopeless σ x1 x2)) σ τ)) := by
  refine m_start (by decide +kernel) (Nat.le_of_ble_eq_true rfl) rfl (fun p e s m args below meth c ls X I hl => ?_)
  have hl : lv_has ls 5 [(0, .ref (G.2.1 32)), (1, .int x1), (2, .int x2)] := hl
  obtain ⟨E, hE⟩ : ∃ E, E = (f4_isHopeless σ x1 x2) := ⟨_, rfl⟩
  rw [← hE]
  refine lv_iload_n X.1 X.2.1 dX4_isHopeless_0 rfl (lv_at hl 2 rfl) ?_
  refine lv_istore_n (lv' := [(3, .int _), (0, .ref _), (1, .int _), (2, .int _)]) X.1 X.2.1 dX4_isHopeless_1 rfl hl (by decide) rfl (fun ls hl => ?_)
  refine lv_iconst (v := 0) X.1 X.2.1 dX4_isHopeless_2 (by decide) ?_
  refine lv_istore (lv' := [(4, .int _), (3, .int _), (0, .ref _), (1, .int _), (2, .int _)]) X.1 X.2.1 dX4_isHopeless_3 hl (by decide) rfl (fun ls hl => ?_)
  exact c4_isHopeless_c5 X _ _ _ _ _ _ _ _ _ _ I (lv_sub hl [2, 3, 4, 1, 0] rfl) (Nat.lt_succ_self _) (hE.trans (rfl))
def f4_goOn_c43 (Gf : SI → Int32 → Int32 → Int32 → SI) (x1 : Int32) (x2 : Int32) (x3 : Int32) (x4 : Int32) (x5 : Int32) (x6 : Int32) (x7 : Int32) : Nat → Int32 → SI → SI
  | 0, _, σ => σ
  | fu + 1, v8, σ => if (f8_houses 10 σ) ≤ v8 then σ else (let r0 := (f4_comesTo σ v8); if r0.1 = true then (let s1 := (f4_consider r0.2 (x1 + (1 : Int32)) ((x2 * (10 : Int32)) + v8) (x3 + (r0.2 32 8))); let s2 := (Gf s1 (x1 + (1 : Int32)) ((x2 * (10 : Int32)) + v8) (x3 + (r0.2 32 8))); let s3 := (f4_stay s2 x4 x5 x6 x7); (f4_goOn_c43 Gf x1 x2 x3 x4 x5 x6 x7 fu (v8 + 1) s3)) else (f4_goOn_c43 Gf x1 x2 x3 x4 x5 x6 x7 fu (v8 + 1) r0.2))
def f4_goOn (Gf : SI → Int32 → Int32 → Int32 → SI) (σ : SI) (x1 : Int32) (x2 : Int32) (x3 : Int32) : SI := if (7 : Int32) ≤ x1 then σ else (if (f4_isHopeless σ x1 x3) = true then σ else (f4_goOn_c43 Gf x1 x2 x3 (σ 32 3) (σ 32 4) (σ 32 5) (σ 32 6) ((Int32.toInt (f8_houses 10 σ) - Int32.toInt (0 : Int32)).toNat + 1) (0 : Int32) σ))
theorem w_f4_goOn_c43 {Gf : SI → Int32 → Int32 → Int32 → SI} (hGf : ∀ (σ : SI) (x1 : Int32) (x2 : Int32) (x3 : Int32) (b : Nat), b ≠ 13 → b ≠ 15 → b ≠ 32 → (Gf σ x1 x2 x3) b = σ b) (x1 : Int32) (x2 : Int32) (x3 : Int32) (x4 : Int32) (x5 : Int32) (x6 : Int32) (x7 : Int32) (a : Nat) (h0 : a ≠ 13) (h1 : a ≠ 15) (h2 : a ≠ 32) : ∀ (fu : Nat) (v8 : Int32) (σ : SI), (f4_goOn_c43 Gf x1 x2 x3 x4 x5 x6 x7 fu v8 σ) a = σ a := by
  intro fu
  induction fu with
  | zero => intros; rfl
  | succ fu ih =>
    intro v8 σ
    unfold f4_goOn_c43
    (repeat' split) <;> (first | rfl | (simp only [sp_n, su_n, ne_eq, not_false_eq_true, h0, h1, h2, w_f4_comesTo, w_f4_consider, w_f4_stay, hGf, ih]; done) | (simp [sp_n, su_n, ne_eq, not_false_eq_true, h0, h1, h2, w_f4_comesTo, w_f4_consider, w_f4_stay, hGf, ih]; done))
theorem w_f4_goOn {Gf : SI → Int32 → Int32 → Int32 → SI} (hGf : ∀ (σ : SI) (x1 : Int32) (x2 : Int32) (x3 : Int32) (b : Nat), b ≠ 13 → b ≠ 15 → b ≠ 32 → (Gf σ x1 x2 x3) b = σ b) (σ : SI) (x1 : Int32) (x2 : Int32) (x3 : Int32) (a : Nat) (h0 : a ≠ 13) (h1 : a ≠ 15) (h2 : a ≠ 32) : (f4_goOn Gf σ x1 x2 x3) a = σ a := by
  unfold f4_goOn
  (repeat' split) <;> (first | rfl | (simp only [sp_n, su_n, ne_eq, not_false_eq_true, h0, h1, h2, w_f4_comesTo, w_f4_consider, w_f4_stay, hGf, w_f4_goOn_c43]; done) | (simp [sp_n, su_n, ne_eq, not_false_eq_true, h0, h1, h2, w_f4_comesTo, w_f4_consider, w_f4_stay, hGf, w_f4_goOn_c43]; done))
set_option maxHeartbeats 4000000 in
set_option maxRecDepth 100000 in
theorem c4_goOn_c43 {l : Launch} {p : Program} {e : Env} {s : State} {m : MethodId} {args : Array Value} {below : List Frame} {meth : Method} {c : Code} {G : GT} (X : CX p s m args meth c cX4_goOn RX4 10 none G) {Gf : SI → Int32 → Int32 → Int32 → SI} {D : Nat} (hG : ∀ (σ : SI) (τ : SL) (x1 : Int32) (x2 : Int32) (x3 : Int32), (Int32.toInt 7 - Int32.toInt x1).toNat < D → Mc l yX4_goOn cX4_goOn 10 none (20 + D) G [.ref (G.2.1 32), .int x1, .int x2, .int x3] σ τ (Qv G (Ev (Gf σ x1 x2 x3) τ))) (hGf : ∀ (σ : SI) (x1 : Int32) (x2 : Int32) (x3 : Int32) (b : Nat), b ≠ 13 → b ≠ 15 → b ≠ 32 → (Gf σ x1 x2 x3) b = σ b) {E : SI} (τ : SL) (x1 : Int32) (x2 : Int32) (x3 : Int32) (x4 : Int32) (x5 : Int32) (x6 : Int32) (x7 : Int32) (hx : (Int32.toInt 7 - Int32.toInt x1).toNat < D + 1) : ∀ (fu : Nat) (v8 : Int32) (σ : SI) (H : Heap) (locs : List Loc) (ls : Array Slot), IX G s H locs σ τ → lv_has ls 10 [(0, .ref (G.2.1 32)), (1, .int x1), (2, .int x2), (3, .int x3), (4, .int x4), (5, .int x5), (6, .int x6), (7, .int x7), (8, .int v8)] → ¬ (7 : Int32) ≤ x1 → (Int32.toInt (f8_houses 10 σ) - Int32.toInt v8).toNat < fu → E = (f4_goOn_c43 Gf x1 x2 x3 x4 x5 x6 x7 fu v8 σ) → W p l e (rmN (20 + D + 1)) s m args below meth c H locs 0 0 (MQ below ((Qv G (Ev E τ)) s.heap.size) args s 0 0 (AW G s.heap.size)) (F0 m 43 ls []) := by
  intro fu
  induction fu with
  | zero =>
    intro v8 σ H locs ls I hl hc hm hE
    exact absurd hm (Nat.not_lt_zero _)
  | succ fu ih =>
    intro v8 σ H locs ls I hl hc hm hE
    refine lv_iload X.1 X.2.1 dX4_goOn_43 (lv_at hl 8 rfl) ?_
    refine lv_aload_n X.1 X.2.1 dX4_goOn_45 rfl (lv_at hl 0 rfl) ?_
    refine g4_0 X I (k := 32) (by decide) rfl lf_X4_9 dX4_goOn_46 ?_
    refine r_ei I (r_runV X I pk_X8_houses (c8_houses l G (k := 10) ⟨by decide, rfl, rfl, rfl⟩ _ _) lm_X4_121 (by decide) (cl_8 rfl) rfl rfl rfl hl.1 rfl (Nat.le_of_ble_eq_true rfl) dX4_goOn_49 (hr_le (by omega) (by decide)) ⟨Nat.le_refl 0, Nat.le_refl 0⟩) (fun H locs I => ?_)
    refine lv_icmp_ge (tgt := 122) X.1 X.2.1 dX4_goOn_52 (by decide) (fun c_3 => ?_) (fun c_3 => ?_)
    · skip
      have h9 := hE.trans ((if_pos c_3).trans rfl)
      exact r_vret X I (e_v (h9).symm rfl) dX4_goOn_122
    · skip
      refine lv_aload_n X.1 X.2.1 dX4_goOn_55 rfl (lv_at hl 0 rfl) ?_
      refine lv_iload X.1 X.2.1 dX4_goOn_56 (lv_at hl 8 rfl) ?_
      refine r_ei I (r_runV X I pk_X4_comesTo (c4_comesTo l G _ _ _) lm_X4_124 (by decide) (cl_4 rfl) rfl rfl rfl hl.1 rfl (Nat.le_of_ble_eq_true rfl) dX4_goOn_58 (hr_le (by omega) (by decide)) ⟨Nat.le_refl 0, Nat.le_refl 0⟩) (fun H locs I => ?_)
      refine lv_if_eq (tgt := 116) X.1 X.2.1 dX4_goOn_61 (by decide) (fun c_4 => ?_) (fun c_4 => ?_)
      · skip
        refine lv_iinc (v := _ + 1) (lv' := [(8, .int _), (0, .ref _), (1, .int _), (2, .int _), (3, .int _), (4, .int _), (5, .int _), (6, .int _), (7, .int _)]) X.1 X.2.1 dX4_goOn_116 hl (k := 8) rfl rfl (by decide) rfl (fun ls hl => ?_)
        refine lv_goto (tgt := 43) X.1 X.2.1 dX4_goOn_119 (by decide) ?_
        exact ih _ _ _ _ _ I (lv_sub hl [1, 2, 3, 4, 5, 6, 7, 8, 0] rfl) (hc) (Nat.lt_of_lt_of_le (dec_c (by first | rfl | simp [f8_houses, f11_cell, w_f4_comesTo, w_f4_consider, w_f4_stay, sp_n, hGf]) (up_dec c_3)) (Nat.le_of_lt_succ hm)) (hE.trans ((if_neg c_3).trans ((if_neg (b2i_n c_4)).trans rfl)))
      · skip
        refine lv_iload_n X.1 X.2.1 dX4_goOn_64 rfl (lv_at hl 3 rfl) ?_
        refine lv_aload_n X.1 X.2.1 dX4_goOn_65 rfl (lv_at hl 0 rfl) ?_
        refine g4_8 X I (k := 32) (by decide) rfl lf_X4_96 dX4_goOn_66 ?_
        refine lv_iadd X.1 X.2.1 dX4_goOn_69 ?_
        refine lv_istore (lv' := [(9, .int _), (0, .ref _), (1, .int _), (2, .int _), (3, .int _), (4, .int _), (5, .int _), (6, .int _), (7, .int _), (8, .int _)]) X.1 X.2.1 dX4_goOn_70 hl (by decide) rfl (fun ls hl => ?_)
        refine lv_aload_n X.1 X.2.1 dX4_goOn_72 rfl (lv_at hl 1 rfl) ?_
        refine lv_iload_n X.1 X.2.1 dX4_goOn_73 rfl (lv_at hl 2 rfl) ?_
        refine lv_iconst (v := 1) X.1 X.2.1 dX4_goOn_74 (by decide) ?_
        refine lv_iadd X.1 X.2.1 dX4_goOn_75 ?_
        refine lv_iload_n X.1 X.2.1 dX4_goOn_76 rfl (lv_at hl 3 rfl) ?_
        refine lv_bipush (v := 10) X.1 X.2.1 dX4_goOn_77 (by decide) ?_
        refine lv_imul X.1 X.2.1 dX4_goOn_79 ?_
        refine lv_iload X.1 X.2.1 dX4_goOn_80 (lv_at hl 9 rfl) ?_
        refine lv_iadd X.1 X.2.1 dX4_goOn_82 ?_
        refine lv_iload X.1 X.2.1 dX4_goOn_83 (lv_at hl 0 rfl) ?_
        refine r_ev I (r_runV X I pk_X4_consider (c4_consider l G _ _ _ _ _) lm_X4_127 (by decide) (cl_4 rfl) rfl rfl rfl hl.1 rfl (Nat.le_of_ble_eq_true rfl) dX4_goOn_85 (hr_le (by omega) (by decide)) ⟨Nat.le_refl 0, Nat.le_refl 0⟩) (fun H locs I => ?_)
        refine lv_aload_n X.1 X.2.1 dX4_goOn_88 rfl (lv_at hl 1 rfl) ?_
        refine lv_iload_n X.1 X.2.1 dX4_goOn_89 rfl (lv_at hl 2 rfl) ?_
        refine lv_iconst (v := 1) X.1 X.2.1 dX4_goOn_90 (by decide) ?_
        refine lv_iadd X.1 X.2.1 dX4_goOn_91 ?_
        refine lv_iload_n X.1 X.2.1 dX4_goOn_92 rfl (lv_at hl 3 rfl) ?_
        refine lv_bipush (v := 10) X.1 X.2.1 dX4_goOn_93 (by decide) ?_
        refine lv_imul X.1 X.2.1 dX4_goOn_95 ?_
        refine lv_iload X.1 X.2.1 dX4_goOn_96 (lv_at hl 9 rfl) ?_
        refine lv_iadd X.1 X.2.1 dX4_goOn_98 ?_
        refine lv_iload X.1 X.2.1 dX4_goOn_99 (lv_at hl 0 rfl) ?_
        refine r_ev I (r_runV X I pk_X4_goOn (hG _ _ _ _ _ (Nat.lt_of_lt_of_le (up_dec hc) (Nat.le_of_lt_succ hx))) lm_X4_114 (by decide) (cl_4 rfl) rfl rfl rfl hl.1 rfl (Nat.le_of_ble_eq_true rfl) dX4_goOn_101 (hr_le (by omega) (by decide)) ⟨Nat.le_refl 0, Nat.le_refl 0⟩) (fun H locs I => ?_)
        refine lv_aload_n X.1 X.2.1 dX4_goOn_104 rfl (lv_at hl 1 rfl) ?_
        refine lv_iload X.1 X.2.1 dX4_goOn_105 (lv_at hl 5 rfl) ?_
        refine lv_iload X.1 X.2.1 dX4_goOn_107 (lv_at hl 6 rfl) ?_
        refine lv_iload X.1 X.2.1 dX4_goOn_109 (lv_at hl 7 rfl) ?_
        refine lv_iload X.1 X.2.1 dX4_goOn_111 (lv_at hl 8 rfl) ?_
        refine r_ev I (r_runV X I pk_X4_stay (c4_stay l G _ _ _ _ _ _) lm_X4_38 (by decide) (cl_4 rfl) rfl rfl rfl hl.1 rfl (Nat.le_of_ble_eq_true rfl) dX4_goOn_113 (hr_le (by omega) (by decide)) ⟨Nat.le_refl 0, Nat.le_refl 0⟩) (fun H locs I => ?_)
        refine lv_iinc (v := _ + 1) (lv' := [(8, .int _), (9, .int _), (0, .ref _), (1, .int _), (2, .int _), (3, .int _), (4, .int _), (5, .int _), (6, .int _), (7, .int _)]) X.1 X.2.1 dX4_goOn_116 hl (k := 9) rfl rfl (by decide) rfl (fun ls hl => ?_)
        refine lv_goto (tgt := 43) X.1 X.2.1 dX4_goOn_119 (by decide) ?_
        exact ih _ _ _ _ _ I (lv_sub hl [2, 3, 4, 5, 6, 7, 8, 9, 0] rfl) (hc) (Nat.lt_of_lt_of_le (dec_c (by first | rfl | simp [f8_houses, f11_cell, w_f4_comesTo, w_f4_consider, w_f4_stay, sp_n, hGf]) (up_dec c_3)) (Nat.le_of_lt_succ hm)) (hE.trans ((if_neg c_3).trans ((if_pos (b2i_y c_4)).trans rfl)))
set_option maxHeartbeats 4000000 in
set_option maxRecDepth 100000 in
theorem c4_goOn (l : Launch) (G : GT) {Gf : SI → Int32 → Int32 → Int32 → SI} {D : Nat} (hG : ∀ (σ : SI) (τ : SL) (x1 : Int32) (x2 : Int32) (x3 : Int32), (Int32.toInt 7 - Int32.toInt x1).toNat < D → Mc l yX4_goOn cX4_goOn 10 none (20 + D) G [.ref (G.2.1 32), .int x1, .int x2, .int x3] σ τ (Qv G (Ev (Gf σ x1 x2 x3) τ))) (hGf : ∀ (σ : SI) (x1 : Int32) (x2 : Int32) (x3 : Int32) (b : Nat), b ≠ 13 → b ≠ 15 → b ≠ 32 → (Gf σ x1 x2 x3) b = σ b) (σ : SI) (τ : SL) (x1 : Int32) (x2 : Int32) (x3 : Int32) (hx : (Int32.toInt 7 - Int32.toInt x1).toNat < D + 1) : Mc l yX4_goOn cX4_goOn 10 none (20 + D + 1) G [.ref (G.2.1 32), .int x1, .int x2, .int x3] σ τ (Qv G (Ev (f4_goOn Gf σ x1 x2 x3) τ)) := by
  refine m_start (by decide +kernel) (Nat.le_of_ble_eq_true rfl) rfl (fun p e s m args below meth c ls X I hl => ?_)
  have hl : lv_has ls 10 [(0, .ref (G.2.1 32)), (1, .int x1), (2, .int x2), (3, .int x3)] := hl
  obtain ⟨E, hE⟩ : ∃ E, E = (f4_goOn Gf σ x1 x2 x3) := ⟨_, rfl⟩
  rw [← hE]
  refine lv_iload_n X.1 X.2.1 dX4_goOn_0 rfl (lv_at hl 1 rfl) ?_
  refine lv_bipush (v := 7) X.1 X.2.1 dX4_goOn_1 (by decide) ?_
  refine lv_icmp_ge (tgt := 15) X.1 X.2.1 dX4_goOn_3 (by decide) (fun c_1 => ?_) (fun c_1 => ?_)
  · skip
    have h9 := hE.trans ((if_pos c_1).trans rfl)
    exact r_vret X I (e_v (h9).symm rfl) dX4_goOn_15
  · skip
    refine lv_aload_n X.1 X.2.1 dX4_goOn_6 rfl (lv_at hl 0 rfl) ?_
    refine lv_iload_n X.1 X.2.1 dX4_goOn_7 rfl (lv_at hl 1 rfl) ?_
    refine lv_iload_n X.1 X.2.1 dX4_goOn_8 rfl (lv_at hl 3 rfl) ?_
    refine r_ei I (r_runV X I pk_X4_isHopeless (c4_isHopeless l G _ _ _ _) lm_X4_118 (by decide) (cl_4 rfl) rfl rfl rfl hl.1 rfl (Nat.le_of_ble_eq_true rfl) dX4_goOn_9 (hr_le (by omega) (by decide)) ⟨Nat.le_refl 0, Nat.le_refl 0⟩) (fun H locs I => ?_)
    refine lv_if_eq (tgt := 16) X.1 X.2.1 dX4_goOn_12 (by decide) (fun c_2 => ?_) (fun c_2 => ?_)
    · skip
      refine lv_aload_n X.1 X.2.1 dX4_goOn_16 rfl (lv_at hl 0 rfl) ?_
      refine g4_3 X I (k := 32) (by decide) rfl lf_X4_42 dX4_goOn_17 ?_
      refine lv_istore (lv' := [(4, .int _), (0, .ref _), (1, .int _), (2, .int _), (3, .int _)]) X.1 X.2.1 dX4_goOn_20 hl (by decide) rfl (fun ls hl => ?_)
      refine lv_aload_n X.1 X.2.1 dX4_goOn_22 rfl (lv_at hl 1 rfl) ?_
      refine g4_4 X I (k := 32) (by decide) rfl lf_X4_43 dX4_goOn_23 ?_
      refine lv_istore (lv' := [(5, .int _), (4, .int _), (0, .ref _), (1, .int _), (2, .int _), (3, .int _)]) X.1 X.2.1 dX4_goOn_26 hl (by decide) rfl (fun ls hl => ?_)
      refine lv_aload_n X.1 X.2.1 dX4_goOn_28 rfl (lv_at hl 2 rfl) ?_
      refine g4_5 X I (k := 32) (by decide) rfl lf_X4_44 dX4_goOn_29 ?_
      refine lv_istore (lv' := [(6, .int _), (5, .int _), (4, .int _), (0, .ref _), (1, .int _), (2, .int _), (3, .int _)]) X.1 X.2.1 dX4_goOn_32 hl (by decide) rfl (fun ls hl => ?_)
      refine lv_aload_n X.1 X.2.1 dX4_goOn_34 rfl (lv_at hl 3 rfl) ?_
      refine g4_6 X I (k := 32) (by decide) rfl lf_X4_45 dX4_goOn_35 ?_
      refine lv_istore (lv' := [(7, .int _), (6, .int _), (5, .int _), (4, .int _), (0, .ref _), (1, .int _), (2, .int _), (3, .int _)]) X.1 X.2.1 dX4_goOn_38 hl (by decide) rfl (fun ls hl => ?_)
      refine lv_iconst (v := 0) X.1 X.2.1 dX4_goOn_40 (by decide) ?_
      refine lv_istore (lv' := [(8, .int _), (7, .int _), (6, .int _), (5, .int _), (4, .int _), (0, .ref _), (1, .int _), (2, .int _), (3, .int _)]) X.1 X.2.1 dX4_goOn_41 hl (by decide) rfl (fun ls hl => ?_)
      exact c4_goOn_c43 X hG hGf _ _ _ _ _ _ _ _ hx _ _ _ _ _ _ I (lv_sub hl [5, 6, 7, 8, 4, 3, 2, 1, 0] rfl) (c_1) (Nat.lt_succ_self _) (hE.trans ((if_neg c_1).trans ((if_neg (b2i_n c_2)).trans rfl)))
    · skip
      have h9 := hE.trans ((if_neg c_1).trans ((if_pos (b2i_y c_2)).trans rfl))
      exact r_vret X I (e_v (h9).symm rfl) dX4_goOn_15
def fGoD : Nat → SI → Int32 → Int32 → Int32 → SI
  | 0 => fun σ _ _ _ => σ
  | D + 1 => fun σ x1 x2 x3 => f4_goOn (fGoD D) σ x1 x2 x3
theorem w_fGoD : ∀ (D : Nat) (σ : SI) (x1 x2 x3 : Int32) (b : Nat), b ≠ 13 → b ≠ 15 → b ≠ 32 → fGoD D σ x1 x2 x3 b = σ b
  | 0, _, _, _, _, _, _, _, _ => rfl
  | D + 1, σ, x1, x2, x3, b, h0, h1, h2 => w_f4_goOn (fun σ x1 x2 x3 b h0 h1 h2 => w_fGoD D σ x1 x2 x3 b h0 h1 h2) σ x1 x2 x3 b h0 h1 h2
theorem cGoD (l : Launch) (G : GT) : ∀ (D : Nat) (σ : SI) (τ : SL) (x1 x2 x3 : Int32), (Int32.toInt 7 - Int32.toInt x1).toNat < D → Mc l yX4_goOn cX4_goOn 10 none (20 + D) G [.ref (G.2.1 32), .int x1, .int x2, .int x3] σ τ (Qv G (Ev (fGoD D σ x1 x2 x3) τ))
  | 0, _, _, _, _, _, h => absurd h (Nat.not_lt_zero _)
  | D + 1, σ, τ, x1, x2, x3, h => c4_goOn l G (fun σ τ x1 x2 x3 h => cGoD l G D σ τ x1 x2 x3 h) (fun σ x1 x2 x3 b h0 h1 h2 => w_fGoD D σ x1 x2 x3 b h0 h1 h2) σ τ x1 x2 x3 h
def f4_go (σ : SI) (x1 x2 x3 : Int32) : SI := fGoD 8 σ x1 x2 x3
theorem seven_lt {x : Int32} (h : ¬ x < 0) : (Int32.toInt 7 - Int32.toInt x).toNat < 8 := by
  rw [lt_ti] at h
  have h0 : (0 : Int32).toInt = 0 := rfl
  have h6 : (7 : Int32).toInt = 7 := rfl
  omega
theorem c4_go (l : Launch) (G : GT) (σ : SI) (τ : SL) (x1 x2 x3 : Int32) (hx0 : ¬ x1 < 0) : Mc l yX4_goOn cX4_goOn 10 none 28 G [.ref (G.2.1 32), .int x1, .int x2, .int x3] σ τ (Qv G (Ev (f4_go σ x1 x2 x3) τ)) := cGoD l G 8 σ τ x1 x2 x3 (seven_lt hx0)
theorem w_f4_go (σ : SI) (x1 x2 x3 : Int32) (b : Nat) (h0 : b ≠ 13) (h1 : b ≠ 15) (h2 : b ≠ 32) : f4_go σ x1 x2 x3 b = σ b := w_fGoD 8 σ x1 x2 x3 b h0 h1 h2
def f4_findRoute (σ : SI) : SI := let s0 := (f4_setOut σ); let s1 := sp s0 32 9 (0 : Int32); let s2 := sp s1 32 10 (0 : Int32); let s3 := sp s2 32 11 (0 : Int32); let s4 := sp s3 32 12 (s0 24 2); let s5 := (f4_go s4 (0 : Int32) (0 : Int32) (0 : Int32)); s5
theorem w_f4_findRoute (σ : SI) (a : Nat) (h0 : a ≠ 13) (h1 : a ≠ 15) (h2 : a ≠ 32) : (f4_findRoute σ) a = σ a := by
  unfold f4_findRoute
  (repeat' split) <;> (first | rfl | (simp only [sp_n, su_n, ne_eq, not_false_eq_true, h0, h1, h2, w_f4_go, w_f4_setOut]; done) | (simp [sp_n, su_n, ne_eq, not_false_eq_true, h0, h1, h2, w_f4_go, w_f4_setOut]; done))
set_option maxHeartbeats 4000000 in
set_option maxRecDepth 100000 in
theorem c4_findRoute (l : Launch) (G : GT) (σ : SI) (τ : SL) : Mc l yX4_findRoute cX4_findRoute 1 none 29 G [.ref (G.2.1 32)] σ τ (Qv G (Ev (f4_findRoute σ) τ)) := by
  refine m_start (by decide +kernel) (Nat.le_of_ble_eq_true rfl) rfl (fun p e s m args below meth c ls X I hl => ?_)
  have hl : lv_has ls 1 [(0, .ref (G.2.1 32))] := hl
  obtain ⟨E, hE⟩ : ∃ E, E = (f4_findRoute σ) := ⟨_, rfl⟩
  rw [← hE]
  refine lv_aload_n X.1 X.2.1 dX4_findRoute_0 rfl (lv_at hl 0 rfl) ?_
  refine r_ev I (r_runV X I pk_X4_setOut (c4_setOut l G _ _) lm_X4_99 (by decide) (cl_4 rfl) rfl rfl rfl hl.1 rfl (Nat.le_of_ble_eq_true rfl) dX4_findRoute_1 ⟨Nat.le_of_ble_eq_true rfl, Nat.le_of_ble_eq_true rfl⟩ ⟨Nat.le_refl 0, Nat.le_refl 0⟩) (fun H locs I => ?_)
  refine lv_aload_n X.1 X.2.1 dX4_findRoute_4 rfl (lv_at hl 0 rfl) ?_
  refine lv_iconst (v := 0) X.1 X.2.1 dX4_findRoute_5 (by decide) ?_
  refine p4_9 X I (k := 32) (by decide) rfl lf_X4_102 dX4_findRoute_6 (fun H locs I => ?_)
  refine lv_aload_n X.1 X.2.1 dX4_findRoute_9 rfl (lv_at hl 0 rfl) ?_
  refine lv_iconst (v := 0) X.1 X.2.1 dX4_findRoute_10 (by decide) ?_
  refine p4_10 X I (k := 32) (by decide) rfl lf_X4_105 dX4_findRoute_11 (fun H locs I => ?_)
  refine lv_aload_n X.1 X.2.1 dX4_findRoute_14 rfl (lv_at hl 0 rfl) ?_
  refine lv_iconst (v := 0) X.1 X.2.1 dX4_findRoute_15 (by decide) ?_
  refine p4_11 X I (k := 32) (by decide) rfl lf_X4_108 dX4_findRoute_16 (fun H locs I => ?_)
  refine lv_aload_n X.1 X.2.1 dX4_findRoute_19 rfl (lv_at hl 0 rfl) ?_
  refine lv_aload_n X.1 X.2.1 dX4_findRoute_20 rfl (lv_at hl 0 rfl) ?_
  refine g4_2 X I (k := 32) (by decide) rfl lf_X4_19 dX4_findRoute_21 ?_
  refine g0_2 X I (k := 24) (by decide) rfl lf_X4_29 dX4_findRoute_24 ?_
  refine p4_12 X I (k := 32) (by decide) rfl lf_X4_111 dX4_findRoute_27 (fun H locs I => ?_)
  refine lv_aload_n X.1 X.2.1 dX4_findRoute_30 rfl (lv_at hl 0 rfl) ?_
  refine lv_iconst (v := 0) X.1 X.2.1 dX4_findRoute_31 (by decide) ?_
  refine lv_iconst (v := 0) X.1 X.2.1 dX4_findRoute_32 (by decide) ?_
  refine lv_iconst (v := 0) X.1 X.2.1 dX4_findRoute_33 (by decide) ?_
  refine r_ev I (r_runV X I pk_X4_goOn (c4_go l G _ _ _ _ _ (by decide)) lm_X4_114 (by decide) (cl_4 rfl) rfl rfl rfl hl.1 rfl (Nat.le_of_ble_eq_true rfl) dX4_findRoute_34 ⟨Nat.le_of_ble_eq_true rfl, Nat.le_of_ble_eq_true rfl⟩ ⟨Nat.le_refl 0, Nat.le_refl 0⟩) (fun H locs I => ?_)
  have h9 := hE
  exact r_vret X I (e_v (h9).symm rfl) dX4_findRoute_37
def f5_forget (σ : SI) : SI := let s0 := sp σ 26 4 (0 : Int32); let s1 := sp s0 26 5 (0 : Int32); let s2 := sp s1 26 6 (0 : Int32); s2
theorem w_f5_forget (σ : SI) (a : Nat) (h0 : a ≠ 26) : (f5_forget σ) a = σ a := by
  unfold f5_forget
  (repeat' split) <;> (first | rfl | (simp only [sp_n, su_n, ne_eq, not_false_eq_true, h0]; done) | (simp [sp_n, su_n, ne_eq, not_false_eq_true, h0]; done))
set_option maxHeartbeats 4000000 in
set_option maxRecDepth 100000 in
theorem c5_forget (l : Launch) (G : GT) (σ : SI) (τ : SL) : Mc l yX5_forget cX5_forget 1 none 0 G [.ref (G.2.1 26)] σ τ (Qv G (Ev (f5_forget σ) τ)) := by
  refine m_start (by decide +kernel) (Nat.le_of_ble_eq_true rfl) rfl (fun p e s m args below meth c ls X I hl => ?_)
  have hl : lv_has ls 1 [(0, .ref (G.2.1 26))] := hl
  obtain ⟨E, hE⟩ : ∃ E, E = (f5_forget σ) := ⟨_, rfl⟩
  rw [← hE]
  refine lv_aload_n X.1 X.2.1 dX5_forget_0 rfl (lv_at hl 0 rfl) ?_
  refine lv_iconst (v := 0) X.1 X.2.1 dX5_forget_1 (by decide) ?_
  refine p5_4 X I (k := 26) (by decide) rfl lf_X5_29 dX5_forget_2 (fun H locs I => ?_)
  refine lv_aload_n X.1 X.2.1 dX5_forget_5 rfl (lv_at hl 0 rfl) ?_
  refine lv_iconst (v := 0) X.1 X.2.1 dX5_forget_6 (by decide) ?_
  refine p5_5 X I (k := 26) (by decide) rfl lf_X5_33 dX5_forget_7 (fun H locs I => ?_)
  refine lv_aload_n X.1 X.2.1 dX5_forget_10 rfl (lv_at hl 0 rfl) ?_
  refine lv_iconst (v := 0) X.1 X.2.1 dX5_forget_11 (by decide) ?_
  refine p5_6 X I (k := 26) (by decide) rfl lf_X5_36 rfl rfl dX5_forget_12 (fun H locs I => ?_)
  have h9 := hE
  exact r_vret X I (e_v (h9).symm rfl) dX5_forget_15
def f5_kept (σ : SI) : Int32 := (σ 26 4)
set_option maxHeartbeats 4000000 in
set_option maxRecDepth 100000 in
theorem c5_kept (l : Launch) (G : GT) (σ : SI) (τ : SL) : Mc l yX5_kept cX5_kept 1 (some .int) 0 G [.ref (G.2.1 26)] σ τ (Qi G (Ei (f5_kept σ) σ τ)) := by
  refine m_start (by decide +kernel) (Nat.le_of_ble_eq_true rfl) rfl (fun p e s m args below meth c ls X I hl => ?_)
  have hl : lv_has ls 1 [(0, .ref (G.2.1 26))] := hl
  obtain ⟨E, hE⟩ : ∃ E, E = (f5_kept σ) := ⟨_, rfl⟩
  rw [← hE]
  refine lv_aload_n X.1 X.2.1 dX5_kept_0 rfl (lv_at hl 0 rfl) ?_
  refine g5_4 X I (k := 26) (by decide) rfl lf_X5_29 dX5_kept_1 ?_
  have h9 := hE
  exact r_iret X I (e_i (h9).symm rfl rfl) dX5_kept_4
def f5_dayAt (x1 : Int32) : Option Nat := if x1 < (0 : Int32) then none else (if (40 : Int32) ≤ x1 then none else (some (43 + 2 * (Int32.toNatClampNeg x1))))
set_option maxHeartbeats 4000000 in
set_option maxRecDepth 100000 in
theorem c5_dayAt (l : Launch) (G : GT) (σ : SI) (τ : SL) (x1 : Int32) : Mc l yX5_dayAt cX5_dayAt 2 (some (.object "SaintCarried$Day")) 0 G [.ref (G.2.1 26), .int x1] σ τ (Qq G (Eq1 ((f5_dayAt x1).map G.2.1) σ τ)) := by
  refine m_start (by decide +kernel) (Nat.le_of_ble_eq_true rfl) rfl (fun p e s m args below meth c ls X I hl => ?_)
  have hl : lv_has ls 2 [(0, .ref (G.2.1 26)), (1, .int x1)] := hl
  obtain ⟨E, hE⟩ : ∃ E, E = (f5_dayAt x1) := ⟨_, rfl⟩
  rw [← hE]
  refine lv_iload_n X.1 X.2.1 dX5_dayAt_0 rfl (lv_at hl 1 rfl) ?_
  refine lv_if_lt (tgt := 22) X.1 X.2.1 dX5_dayAt_1 (by decide) (fun c_1 => ?_) (fun c_1 => ?_)
  · skip
    refine lv_null X.1 X.2.1 dX5_dayAt_22 ?_
    have h9 := hE.trans ((if_pos c_1).trans rfl)
    exact r_qret (v := none) X I (Or.inl ⟨_, rfl⟩) (e_q (congrArg (Option.map G.2.1) (h9)).symm rfl rfl) dX5_dayAt_23
  · skip
    refine lv_iload_n X.1 X.2.1 dX5_dayAt_4 rfl (lv_at hl 1 rfl) ?_
    refine lv_aload_n X.1 X.2.1 dX5_dayAt_5 rfl (lv_at hl 0 rfl) ?_
    refine g5_0 X I (k := 26) (by decide) rfl lf_X5_11 dX5_dayAt_6 ?_
    refine r_alen20 X I (k := 27) (by decide) rfl dX5_dayAt_9 ?_
    refine lv_icmp_ge (tgt := 22) X.1 X.2.1 dX5_dayAt_10 (by decide) (fun c_2 => ?_) (fun c_2 => ?_)
    · skip
      refine lv_null X.1 X.2.1 dX5_dayAt_22 ?_
      have h9 := hE.trans ((if_neg c_1).trans ((if_pos c_2).trans rfl))
      exact r_qret (v := none) X I (Or.inl ⟨_, rfl⟩) (e_q (congrArg (Option.map G.2.1) (h9)).symm rfl rfl) dX5_dayAt_23
    · skip
      refine lv_aload_n X.1 X.2.1 dX5_dayAt_13 rfl (lv_at hl 0 rfl) ?_
      refine g5_0 X I (k := 26) (by decide) rfl lf_X5_11 dX5_dayAt_14 ?_
      refine lv_iload_n X.1 X.2.1 dX5_dayAt_17 rfl (lv_at hl 1 rfl) ?_
      refine r_dayld X I (k := 27) (by decide) rfl (vp_g (n := 40) (by decide) c_1 c_2) dX5_dayAt_18 ?_
      refine lv_goto (tgt := 23) X.1 X.2.1 dX5_dayAt_19 (by decide) ?_
      have h9 := hE.trans ((if_neg c_1).trans ((if_neg c_2).trans rfl))
      exact r_qret (v := some _) X I (Or.inl ⟨_, rfl⟩) (e_q (congrArg (Option.map G.2.1) (h9)).symm rfl rfl) dX5_dayAt_23
theorem day_fact {x1 : Int32} {k : Nat} (h : f5_dayAt x1 = some k) : isDay k := by
  unfold f5_dayAt at h
  split at h
  · cases h
  · split at h
    · cases h
    · next h1 h2 =>
      obtain ⟨j, hj, rfl⟩ := nI_of h1
      have h3 : ¬ nI 40 ≤ nI j := h2
      rw [nI_leI (by decide) hj] at h3
      rw [nI_clamp hj] at h
      have h4 : 43 + 2 * j = k := Option.some.inj h
      subst h4
      exact day_all j (by omega)
def f5_keep (k1 : Nat) (σ : SI) : SI := oq (f5_dayAt (σ 26 5)) (if (σ 26 5) < (39 : Int32) then (let s0 := sp σ 26 5 ((σ 26 5) + (1 : Int32)); let s1 := sp s0 26 4 (if ((σ 26 4) + (1 : Int32)) < (40 : Int32) then ((σ 26 4) + (1 : Int32)) else (40 : Int32)); s1) else (let s2 := sp σ 26 5 (0 : Int32); let s3 := sp s2 26 4 (if ((σ 26 4) + (1 : Int32)) < (40 : Int32) then ((σ 26 4) + (1 : Int32)) else (40 : Int32)); s3)) (fun o_1k => let s4 := (f0_copy o_1k k1 σ); if (s4 26 5) < (39 : Int32) then (let s5 := sp s4 26 5 ((s4 26 5) + (1 : Int32)); let s6 := sp s5 26 4 (if ((s4 26 4) + (1 : Int32)) < (40 : Int32) then ((s4 26 4) + (1 : Int32)) else (40 : Int32)); s6) else (let s7 := sp s4 26 5 (0 : Int32); let s8 := sp s7 26 4 (if ((s4 26 4) + (1 : Int32)) < (40 : Int32) then ((s4 26 4) + (1 : Int32)) else (40 : Int32)); s8))
theorem w_f5_keep {k1 : Nat} (σ : SI) (a : Nat) (h0 : a ≠ 26) (h1 : a ≠ (o_1k + 1)) (h2 : a ≠ o_1k) : (f5_keep k1 σ) a = σ a := by
  unfold f5_keep
  (repeat' split) <;> (first | rfl | (simp only [sp_n, su_n, ne_eq, not_false_eq_true, h0, h1, h2, w_f0_copy]; done) | (simp [sp_n, su_n, ne_eq, not_false_eq_true, h0, h1, h2, w_f0_copy]; done))
set_option maxHeartbeats 4000000 in
set_option maxRecDepth 100000 in
theorem c5_keep (l : Launch) (G : GT) {k1 : Nat} (hk1 : isDay k1) (σ : SI) (τ : SL) : Mc l yX5_keep cX5_keep 3 none 3 G [.ref (G.2.1 26), .ref (G.2.1 k1)] σ τ (Qv G (Ev (f5_keep k1 σ) τ)) := by
  refine m_start (by decide +kernel) (Nat.le_of_ble_eq_true rfl) rfl (fun p e s m args below meth c ls X I hl => ?_)
  have hl : lv_has ls 3 [(0, .ref (G.2.1 26)), (1, .ref (G.2.1 k1))] := hl
  obtain ⟨E, hE⟩ : ∃ E, E = (f5_keep k1 σ) := ⟨_, rfl⟩
  rw [← hE]
  refine lv_aload_n X.1 X.2.1 dX5_keep_0 rfl (lv_at hl 0 rfl) ?_
  refine lv_aload_n X.1 X.2.1 dX5_keep_1 rfl (lv_at hl 0 rfl) ?_
  refine g5_5 X I (k := 26) (by decide) rfl lf_X5_33 dX5_keep_2 ?_
  refine r_eqs I (r_runV X I pk_X5_dayAt (c5_dayAt l G _ _ _) lm_X5_40 (by decide) (cl_5 rfl) rfl rfl rfl hl.1 rfl (Nat.le_of_ble_eq_true rfl) dX5_keep_5 ⟨Nat.le_of_ble_eq_true rfl, Nat.le_of_ble_eq_true rfl⟩ ⟨Nat.le_refl 0, Nat.le_refl 0⟩) (fun o_1 H locs I => ?_) (fun o_1k ho_1 H locs I => ?_)
  · skip
    refine lv_astore_nN (lv' := [(2, .null), (0, .ref _), (1, .ref _)]) X.1 X.2.1 dX5_keep_8 rfl hl (by decide) rfl (fun ls hl => ?_)
    refine lv_aload_nN X.1 X.2.1 dX5_keep_9 rfl (lv_at hl 0 rfl) ?_
    refine lv_ifnullN (tgt := 18) X.1 X.2.1 dX5_keep_10 (by decide) ?_
    refine lv_aload_n X.1 X.2.1 dX5_keep_18 rfl (lv_at hl 1 rfl) ?_
    refine lv_aload_n X.1 X.2.1 dX5_keep_19 rfl (lv_at hl 1 rfl) ?_
    refine g5_5 X I (k := 26) (by decide) rfl lf_X5_33 dX5_keep_20 ?_
    refine lv_bipush (v := 39) X.1 X.2.1 dX5_keep_23 (by decide) ?_
    refine lv_icmp_lt (tgt := 32) X.1 X.2.1 dX5_keep_25 (by decide) (fun c_2 => ?_) (fun c_2 => ?_)
    · skip
      refine lv_aload_n X.1 X.2.1 dX5_keep_32 rfl (lv_at hl 1 rfl) ?_
      refine g5_5 X I (k := 26) (by decide) rfl lf_X5_33 dX5_keep_33 ?_
      refine lv_iconst (v := 1) X.1 X.2.1 dX5_keep_36 (by decide) ?_
      refine lv_iadd X.1 X.2.1 dX5_keep_37 ?_
      refine p5_5 X I (k := 26) (by decide) rfl lf_X5_33 dX5_keep_38 (fun H locs I => ?_)
      refine lv_aload_n X.1 X.2.1 dX5_keep_41 rfl (lv_at hl 1 rfl) ?_
      refine lv_bipush (v := 40) X.1 X.2.1 dX5_keep_42 (by decide) ?_
      refine lv_aload_n X.1 X.2.1 dX5_keep_44 rfl (lv_at hl 1 rfl) ?_
      refine g5_4 X I (k := 26) (by decide) rfl lf_X5_29 dX5_keep_45 ?_
      refine lv_iconst (v := 1) X.1 X.2.1 dX5_keep_48 (by decide) ?_
      refine lv_iadd X.1 X.2.1 dX5_keep_49 ?_
      refine r_mmin X hl.1 lm_X5_48 ls_J9_min_7cf53 ln_J9 lc_J9_min_7cf53 (Nat.le_of_ble_eq_true rfl) (Nat.le_of_ble_eq_true rfl) (Nat.le_refl 0) (Nat.le_refl 0) dX5_keep_50 ?_
      refine p5_4 X I (k := 26) (by decide) rfl lf_X5_29 dX5_keep_53 (fun H locs I => ?_)
      have h9 := hE.trans ((oq_none o_1).trans ((if_pos c_2).trans rfl))
      exact r_vret X I (e_v (h9).symm rfl) dX5_keep_56
    · skip
      refine lv_iconst (v := 0) X.1 X.2.1 dX5_keep_28 (by decide) ?_
      refine lv_goto (tgt := 38) X.1 X.2.1 dX5_keep_29 (by decide) ?_
      refine p5_5 X I (k := 26) (by decide) rfl lf_X5_33 dX5_keep_38 (fun H locs I => ?_)
      refine lv_aload_n X.1 X.2.1 dX5_keep_41 rfl (lv_at hl 1 rfl) ?_
      refine lv_bipush (v := 40) X.1 X.2.1 dX5_keep_42 (by decide) ?_
      refine lv_aload_n X.1 X.2.1 dX5_keep_44 rfl (lv_at hl 1 rfl) ?_
      refine g5_4 X I (k := 26) (by decide) rfl lf_X5_29 dX5_keep_45 ?_
      refine lv_iconst (v := 1) X.1 X.2.1 dX5_keep_48 (by decide) ?_
      refine lv_iadd X.1 X.2.1 dX5_keep_49 ?_
      refine r_mmin X hl.1 lm_X5_48 ls_J9_min_7cf53 ln_J9 lc_J9_min_7cf53 (Nat.le_of_ble_eq_true rfl) (Nat.le_of_ble_eq_true rfl) (Nat.le_refl 0) (Nat.le_refl 0) dX5_keep_50 ?_
      refine p5_4 X I (k := 26) (by decide) rfl lf_X5_29 dX5_keep_53 (fun H locs I => ?_)
      have h9 := hE.trans ((oq_none o_1).trans ((if_neg c_2).trans rfl))
      exact r_vret X I (e_v (h9).symm rfl) dX5_keep_56
  · skip
    have hko_1 := day_fact ho_1
    refine lv_astore_n (lv' := [(2, .ref _), (0, .ref _), (1, .ref _)]) X.1 X.2.1 dX5_keep_8 rfl hl (by decide) rfl (fun ls hl => ?_)
    refine lv_aload_n X.1 X.2.1 dX5_keep_9 rfl (lv_at hl 0 rfl) ?_
    refine lv_ifnull X.1 X.2.1 dX5_keep_10 ?_
    refine lv_aload_n X.1 X.2.1 dX5_keep_13 rfl (lv_at hl 0 rfl) ?_
    refine lv_aload_n X.1 X.2.1 dX5_keep_14 rfl (lv_at hl 2 rfl) ?_
    refine r_ev I (r_runV X I pk_X0_copy (c0_copy l G (k := o_1k) hko_1 (k1 := k1) hk1 _ _) lm_X5_44 (Nat.lt_of_le_of_lt (Nat.add_le_add_left (show 0 ≤ 1 by decide) o_1k) hko_1.1) (cl_0 hko_1.2.1) rfl rfl rfl hl.1 rfl (Nat.le_of_ble_eq_true rfl) dX5_keep_15 ⟨Nat.le_of_ble_eq_true rfl, Nat.le_of_ble_eq_true rfl⟩ ⟨Nat.le_refl 0, Nat.le_refl 0⟩) (fun H locs I => ?_)
    refine lv_aload_n X.1 X.2.1 dX5_keep_18 rfl (lv_at hl 1 rfl) ?_
    refine lv_aload_n X.1 X.2.1 dX5_keep_19 rfl (lv_at hl 1 rfl) ?_
    refine g5_5 X I (k := 26) (by decide) rfl lf_X5_33 dX5_keep_20 ?_
    refine lv_bipush (v := 39) X.1 X.2.1 dX5_keep_23 (by decide) ?_
    refine lv_icmp_lt (tgt := 32) X.1 X.2.1 dX5_keep_25 (by decide) (fun c_3 => ?_) (fun c_3 => ?_)
    · skip
      refine lv_aload_n X.1 X.2.1 dX5_keep_32 rfl (lv_at hl 1 rfl) ?_
      refine g5_5 X I (k := 26) (by decide) rfl lf_X5_33 dX5_keep_33 ?_
      refine lv_iconst (v := 1) X.1 X.2.1 dX5_keep_36 (by decide) ?_
      refine lv_iadd X.1 X.2.1 dX5_keep_37 ?_
      refine p5_5 X I (k := 26) (by decide) rfl lf_X5_33 dX5_keep_38 (fun H locs I => ?_)
      refine lv_aload_n X.1 X.2.1 dX5_keep_41 rfl (lv_at hl 1 rfl) ?_
      refine lv_bipush (v := 40) X.1 X.2.1 dX5_keep_42 (by decide) ?_
      refine lv_aload_n X.1 X.2.1 dX5_keep_44 rfl (lv_at hl 1 rfl) ?_
      refine g5_4 X I (k := 26) (by decide) rfl lf_X5_29 dX5_keep_45 ?_
      refine lv_iconst (v := 1) X.1 X.2.1 dX5_keep_48 (by decide) ?_
      refine lv_iadd X.1 X.2.1 dX5_keep_49 ?_
      refine r_mmin X hl.1 lm_X5_48 ls_J9_min_7cf53 ln_J9 lc_J9_min_7cf53 (Nat.le_of_ble_eq_true rfl) (Nat.le_of_ble_eq_true rfl) (Nat.le_refl 0) (Nat.le_refl 0) dX5_keep_50 ?_
      refine p5_4 X I (k := 26) (by decide) rfl lf_X5_29 dX5_keep_53 (fun H locs I => ?_)
      have h9 := hE.trans ((oq_some ho_1).trans ((if_pos c_3).trans rfl))
      exact r_vret X I (e_v (h9).symm rfl) dX5_keep_56
    · skip
      refine lv_iconst (v := 0) X.1 X.2.1 dX5_keep_28 (by decide) ?_
      refine lv_goto (tgt := 38) X.1 X.2.1 dX5_keep_29 (by decide) ?_
      refine p5_5 X I (k := 26) (by decide) rfl lf_X5_33 dX5_keep_38 (fun H locs I => ?_)
      refine lv_aload_n X.1 X.2.1 dX5_keep_41 rfl (lv_at hl 1 rfl) ?_
      refine lv_bipush (v := 40) X.1 X.2.1 dX5_keep_42 (by decide) ?_
      refine lv_aload_n X.1 X.2.1 dX5_keep_44 rfl (lv_at hl 1 rfl) ?_
      refine g5_4 X I (k := 26) (by decide) rfl lf_X5_29 dX5_keep_45 ?_
      refine lv_iconst (v := 1) X.1 X.2.1 dX5_keep_48 (by decide) ?_
      refine lv_iadd X.1 X.2.1 dX5_keep_49 ?_
      refine r_mmin X hl.1 lm_X5_48 ls_J9_min_7cf53 ln_J9 lc_J9_min_7cf53 (Nat.le_of_ble_eq_true rfl) (Nat.le_of_ble_eq_true rfl) (Nat.le_refl 0) (Nat.le_refl 0) dX5_keep_50 ?_
      refine p5_4 X I (k := 26) (by decide) rfl lf_X5_29 dX5_keep_53 (fun H locs I => ?_)
      have h9 := hE.trans ((oq_some ho_1).trans ((if_neg c_3).trans rfl))
      exact r_vret X I (e_v (h9).symm rfl) dX5_keep_56
def f5_takeBack (k1 : Nat) (σ : SI) : Bool × SI := if (0 : Int32) < (σ 26 4) then (if (0 : Int32) < (σ 26 5) then (let s0 := sp σ 26 5 ((σ 26 5) - (1 : Int32)); let s1 := sp s0 26 4 ((σ 26 4) - (1 : Int32)); oq (f5_dayAt ((σ 26 5) - (1 : Int32))) ((true, s1)) (fun o_3k => let s2 := (f0_copy k1 o_3k s1); (true, s2))) else (let s3 := sp σ 26 5 (39 : Int32); let s4 := sp s3 26 4 ((σ 26 4) - (1 : Int32)); oq (f5_dayAt (39 : Int32)) ((true, s4)) (fun o_4k => let s5 := (f0_copy k1 o_4k s4); (true, s5)))) else (false, σ)
theorem w_f5_takeBack {k1 : Nat} (σ : SI) (a : Nat) (h0 : a ≠ 26) (h1 : a ≠ (k1 + 1)) (h2 : a ≠ k1) : (f5_takeBack k1 σ).2 a = σ a := by
  unfold f5_takeBack
  (repeat' split) <;> (first | rfl | (simp only [sp_n, su_n, ne_eq, not_false_eq_true, h0, h1, h2, w_f0_copy]; done) | (simp [sp_n, su_n, ne_eq, not_false_eq_true, h0, h1, h2, w_f0_copy]; done))
set_option maxHeartbeats 4000000 in
set_option maxRecDepth 100000 in
theorem c5_takeBack (l : Launch) (G : GT) {k1 : Nat} (hk1 : isDay k1) (σ : SI) (τ : SL) : Mc l yX5_takeBack cX5_takeBack 3 (some .boolean) 3 G [.ref (G.2.1 26), .ref (G.2.1 k1)] σ τ (Qi G (Ei (b2i (f5_takeBack k1 σ).1) (f5_takeBack k1 σ).2 τ)) := by
  refine m_start (by decide +kernel) (Nat.le_of_ble_eq_true rfl) rfl (fun p e s m args below meth c ls X I hl => ?_)
  have hl : lv_has ls 3 [(0, .ref (G.2.1 26)), (1, .ref (G.2.1 k1))] := hl
  obtain ⟨E, hE⟩ : ∃ E, E = (f5_takeBack k1 σ) := ⟨_, rfl⟩
  rw [← hE]
  refine lv_aload_n X.1 X.2.1 dX5_takeBack_0 rfl (lv_at hl 0 rfl) ?_
  refine g5_4 X I (k := 26) (by decide) rfl lf_X5_29 dX5_takeBack_1 ?_
  refine lv_if_gt (tgt := 9) X.1 X.2.1 dX5_takeBack_4 (by decide) (fun c_1 => ?_) (fun c_1 => ?_)
  · skip
    refine lv_aload_n X.1 X.2.1 dX5_takeBack_9 rfl (lv_at hl 0 rfl) ?_
    refine lv_aload_n X.1 X.2.1 dX5_takeBack_10 rfl (lv_at hl 0 rfl) ?_
    refine g5_5 X I (k := 26) (by decide) rfl lf_X5_33 dX5_takeBack_11 ?_
    refine lv_if_gt (tgt := 22) X.1 X.2.1 dX5_takeBack_14 (by decide) (fun c_2 => ?_) (fun c_2 => ?_)
    · skip
      refine lv_aload_n X.1 X.2.1 dX5_takeBack_22 rfl (lv_at hl 0 rfl) ?_
      refine g5_5 X I (k := 26) (by decide) rfl lf_X5_33 dX5_takeBack_23 ?_
      refine lv_iconst (v := 1) X.1 X.2.1 dX5_takeBack_26 (by decide) ?_
      refine lv_isub X.1 X.2.1 dX5_takeBack_27 ?_
      refine p5_5 X I (k := 26) (by decide) rfl lf_X5_33 dX5_takeBack_28 (fun H locs I => ?_)
      refine lv_aload_n X.1 X.2.1 dX5_takeBack_31 rfl (lv_at hl 0 rfl) ?_
      refine lv_dup X.1 X.2.1 dX5_takeBack_32 rfl ?_
      refine g5_4 X I (k := 26) (by decide) rfl lf_X5_29 dX5_takeBack_33 ?_
      refine lv_iconst (v := 1) X.1 X.2.1 dX5_takeBack_36 (by decide) ?_
      refine lv_isub X.1 X.2.1 dX5_takeBack_37 ?_
      refine p5_4 X I (k := 26) (by decide) rfl lf_X5_29 dX5_takeBack_38 (fun H locs I => ?_)
      refine lv_aload_n X.1 X.2.1 dX5_takeBack_41 rfl (lv_at hl 0 rfl) ?_
      refine lv_aload_n X.1 X.2.1 dX5_takeBack_42 rfl (lv_at hl 0 rfl) ?_
      refine g5_5 X I (k := 26) (by decide) rfl lf_X5_33 dX5_takeBack_43 ?_
      refine r_eqs I (r_runV X I pk_X5_dayAt (c5_dayAt l G _ _ _) lm_X5_40 (by decide) (cl_5 rfl) rfl rfl rfl hl.1 rfl (Nat.le_of_ble_eq_true rfl) dX5_takeBack_46 ⟨Nat.le_of_ble_eq_true rfl, Nat.le_of_ble_eq_true rfl⟩ ⟨Nat.le_refl 0, Nat.le_refl 0⟩) (fun o_3 H locs I => ?_) (fun o_3k ho_3 H locs I => ?_)
      · skip
        refine lv_astore_nN (lv' := [(2, .null), (0, .ref _), (1, .ref _)]) X.1 X.2.1 dX5_takeBack_49 rfl hl (by decide) rfl (fun ls hl => ?_)
        refine lv_aload_nN X.1 X.2.1 dX5_takeBack_50 rfl (lv_at hl 0 rfl) ?_
        refine lv_ifnullN (tgt := 59) X.1 X.2.1 dX5_takeBack_51 (by decide) ?_
        refine lv_iconst (v := 1) X.1 X.2.1 dX5_takeBack_59 (by decide) ?_
        have h9 := hE.trans ((if_pos c_1).trans ((if_pos c_2).trans ((oq_none o_3).trans rfl)))
        exact r_zret X I rfl (e_i (congrArg b2i (congrArg Prod.fst h9)).symm (congrArg Prod.snd h9).symm rfl) dX5_takeBack_60
      · skip
        have hko_3 := day_fact ho_3
        refine lv_astore_n (lv' := [(2, .ref _), (0, .ref _), (1, .ref _)]) X.1 X.2.1 dX5_takeBack_49 rfl hl (by decide) rfl (fun ls hl => ?_)
        refine lv_aload_n X.1 X.2.1 dX5_takeBack_50 rfl (lv_at hl 0 rfl) ?_
        refine lv_ifnull X.1 X.2.1 dX5_takeBack_51 ?_
        refine lv_aload_n X.1 X.2.1 dX5_takeBack_54 rfl (lv_at hl 2 rfl) ?_
        refine lv_aload_n X.1 X.2.1 dX5_takeBack_55 rfl (lv_at hl 0 rfl) ?_
        refine r_ev I (r_runV X I pk_X0_copy (c0_copy l G (k := k1) hk1 (k1 := o_3k) hko_3 _ _) lm_X5_44 (Nat.lt_of_le_of_lt (Nat.add_le_add_left (show 0 ≤ 1 by decide) k1) hk1.1) (cl_0 hk1.2.1) rfl rfl rfl hl.1 rfl (Nat.le_of_ble_eq_true rfl) dX5_takeBack_56 ⟨Nat.le_of_ble_eq_true rfl, Nat.le_of_ble_eq_true rfl⟩ ⟨Nat.le_refl 0, Nat.le_refl 0⟩) (fun H locs I => ?_)
        refine lv_iconst (v := 1) X.1 X.2.1 dX5_takeBack_59 (by decide) ?_
        have h9 := hE.trans ((if_pos c_1).trans ((if_pos c_2).trans ((oq_some ho_3).trans rfl)))
        exact r_zret X I rfl (e_i (congrArg b2i (congrArg Prod.fst h9)).symm (congrArg Prod.snd h9).symm rfl) dX5_takeBack_60
    · skip
      refine lv_bipush (v := 39) X.1 X.2.1 dX5_takeBack_17 (by decide) ?_
      refine lv_goto (tgt := 28) X.1 X.2.1 dX5_takeBack_19 (by decide) ?_
      refine p5_5 X I (k := 26) (by decide) rfl lf_X5_33 dX5_takeBack_28 (fun H locs I => ?_)
      refine lv_aload_n X.1 X.2.1 dX5_takeBack_31 rfl (lv_at hl 0 rfl) ?_
      refine lv_dup X.1 X.2.1 dX5_takeBack_32 rfl ?_
      refine g5_4 X I (k := 26) (by decide) rfl lf_X5_29 dX5_takeBack_33 ?_
      refine lv_iconst (v := 1) X.1 X.2.1 dX5_takeBack_36 (by decide) ?_
      refine lv_isub X.1 X.2.1 dX5_takeBack_37 ?_
      refine p5_4 X I (k := 26) (by decide) rfl lf_X5_29 dX5_takeBack_38 (fun H locs I => ?_)
      refine lv_aload_n X.1 X.2.1 dX5_takeBack_41 rfl (lv_at hl 0 rfl) ?_
      refine lv_aload_n X.1 X.2.1 dX5_takeBack_42 rfl (lv_at hl 0 rfl) ?_
      refine g5_5 X I (k := 26) (by decide) rfl lf_X5_33 dX5_takeBack_43 ?_
      refine r_eqs I (r_runV X I pk_X5_dayAt (c5_dayAt l G _ _ _) lm_X5_40 (by decide) (cl_5 rfl) rfl rfl rfl hl.1 rfl (Nat.le_of_ble_eq_true rfl) dX5_takeBack_46 ⟨Nat.le_of_ble_eq_true rfl, Nat.le_of_ble_eq_true rfl⟩ ⟨Nat.le_refl 0, Nat.le_refl 0⟩) (fun o_4 H locs I => ?_) (fun o_4k ho_4 H locs I => ?_)
      · skip
        refine lv_astore_nN (lv' := [(2, .null), (0, .ref _), (1, .ref _)]) X.1 X.2.1 dX5_takeBack_49 rfl hl (by decide) rfl (fun ls hl => ?_)
        refine lv_aload_nN X.1 X.2.1 dX5_takeBack_50 rfl (lv_at hl 0 rfl) ?_
        refine lv_ifnullN (tgt := 59) X.1 X.2.1 dX5_takeBack_51 (by decide) ?_
        refine lv_iconst (v := 1) X.1 X.2.1 dX5_takeBack_59 (by decide) ?_
        have h9 := hE.trans ((if_pos c_1).trans ((if_neg c_2).trans ((oq_none o_4).trans rfl)))
        exact r_zret X I rfl (e_i (congrArg b2i (congrArg Prod.fst h9)).symm (congrArg Prod.snd h9).symm rfl) dX5_takeBack_60
      · skip
        have hko_4 := day_fact ho_4
        refine lv_astore_n (lv' := [(2, .ref _), (0, .ref _), (1, .ref _)]) X.1 X.2.1 dX5_takeBack_49 rfl hl (by decide) rfl (fun ls hl => ?_)
        refine lv_aload_n X.1 X.2.1 dX5_takeBack_50 rfl (lv_at hl 0 rfl) ?_
        refine lv_ifnull X.1 X.2.1 dX5_takeBack_51 ?_
        refine lv_aload_n X.1 X.2.1 dX5_takeBack_54 rfl (lv_at hl 2 rfl) ?_
        refine lv_aload_n X.1 X.2.1 dX5_takeBack_55 rfl (lv_at hl 0 rfl) ?_
        refine r_ev I (r_runV X I pk_X0_copy (c0_copy l G (k := k1) hk1 (k1 := o_4k) hko_4 _ _) lm_X5_44 (Nat.lt_of_le_of_lt (Nat.add_le_add_left (show 0 ≤ 1 by decide) k1) hk1.1) (cl_0 hk1.2.1) rfl rfl rfl hl.1 rfl (Nat.le_of_ble_eq_true rfl) dX5_takeBack_56 ⟨Nat.le_of_ble_eq_true rfl, Nat.le_of_ble_eq_true rfl⟩ ⟨Nat.le_refl 0, Nat.le_refl 0⟩) (fun H locs I => ?_)
        refine lv_iconst (v := 1) X.1 X.2.1 dX5_takeBack_59 (by decide) ?_
        have h9 := hE.trans ((if_pos c_1).trans ((if_neg c_2).trans ((oq_some ho_4).trans rfl)))
        exact r_zret X I rfl (e_i (congrArg b2i (congrArg Prod.fst h9)).symm (congrArg Prod.snd h9).symm rfl) dX5_takeBack_60
  · skip
    refine lv_iconst (v := 0) X.1 X.2.1 dX5_takeBack_7 (by decide) ?_
    have h9 := hE.trans ((if_neg c_1).trans rfl)
    exact r_zret X I rfl (e_i (congrArg b2i (congrArg Prod.fst h9)).symm (congrArg Prod.snd h9).symm rfl) dX5_takeBack_8
def ffloorMod (x0 : Int32) (x1 : Int32) : Int32 := if (0 : Int32) ≤ (x0 ^^^ x1) then (x0 - x0 / x1 * x1) else (if (x0 - x0 / x1 * x1) = (0 : Int32) then (x0 - x0 / x1 * x1) else ((x0 - x0 / x1 * x1) + x1))
set_option maxHeartbeats 4000000 in
set_option maxRecDepth 100000 in
theorem cfloorMod (l : Launch) (G : GT) (σ : SI) (τ : SL) (x0 : Int32) (x1 : Int32) (hy : ¬ x1 = 0) : Mc l yJ9_floorMod_7cf53 cJ9_floorMod_7cf53 3 (some .int) 0 G [.int x0, .int x1] σ τ (Qi G (Ei (ffloorMod x0 x1) σ τ)) := by
  refine m_start (by decide +kernel) (Nat.le_of_ble_eq_true rfl) rfl (fun p e s m args below meth c ls X I hl => ?_)
  have hl : lv_has ls 3 [(0, .int x0), (1, .int x1)] := hl
  obtain ⟨E, hE⟩ : ∃ E, E = (ffloorMod x0 x1) := ⟨_, rfl⟩
  rw [← hE]
  refine lv_iload_n X.1 X.2.1 dJ9_floorMod_7cf53_0 rfl (lv_at hl 0 rfl) ?_
  refine lv_iload_n X.1 X.2.1 dJ9_floorMod_7cf53_1 rfl (lv_at hl 1 rfl) ?_
  refine lv_irem X.1 X.2.1 dJ9_floorMod_7cf53_2 (hy) ?_
  refine lv_istore_n (lv' := [(2, .int _), (0, .int _), (1, .int _)]) X.1 X.2.1 dJ9_floorMod_7cf53_3 rfl hl (by decide) rfl (fun ls hl => ?_)
  refine lv_iload_n X.1 X.2.1 dJ9_floorMod_7cf53_4 rfl (lv_at hl 1 rfl) ?_
  refine lv_iload_n X.1 X.2.1 dJ9_floorMod_7cf53_5 rfl (lv_at hl 2 rfl) ?_
  refine lv_ixor X.1 X.2.1 dJ9_floorMod_7cf53_6 ?_
  refine lv_if_ge (tgt := 18) X.1 X.2.1 dJ9_floorMod_7cf53_7 (by decide) (fun c_1 => ?_) (fun c_1 => ?_)
  · skip
    refine lv_iload_n X.1 X.2.1 dJ9_floorMod_7cf53_18 rfl (lv_at hl 0 rfl) ?_
    have h9 := hE.trans ((if_pos c_1).trans rfl)
    exact r_iret X I (e_i (h9).symm rfl rfl) dJ9_floorMod_7cf53_19
  · skip
    refine lv_iload_n X.1 X.2.1 dJ9_floorMod_7cf53_10 rfl (lv_at hl 0 rfl) ?_
    refine lv_if_eq (tgt := 18) X.1 X.2.1 dJ9_floorMod_7cf53_11 (by decide) (fun c_2 => ?_) (fun c_2 => ?_)
    · skip
      refine lv_iload_n X.1 X.2.1 dJ9_floorMod_7cf53_18 rfl (lv_at hl 0 rfl) ?_
      have h9 := hE.trans ((if_neg c_1).trans ((if_pos c_2).trans rfl))
      exact r_iret X I (e_i (h9).symm rfl rfl) dJ9_floorMod_7cf53_19
    · skip
      refine lv_iload_n X.1 X.2.1 dJ9_floorMod_7cf53_14 rfl (lv_at hl 0 rfl) ?_
      refine lv_iload_n X.1 X.2.1 dJ9_floorMod_7cf53_15 rfl (lv_at hl 2 rfl) ?_
      refine lv_iadd X.1 X.2.1 dJ9_floorMod_7cf53_16 ?_
      have h9 := hE.trans ((if_neg c_1).trans ((if_neg c_2).trans rfl))
      exact r_iret X I (e_i (h9).symm rfl rfl) dJ9_floorMod_7cf53_17
def f5_rowStart (x0 : Int32) : Int32 := ((ffloorMod x0 (100 : Int32)) * (4 : Int32))
set_option maxHeartbeats 4000000 in
set_option maxRecDepth 100000 in
theorem c5_rowStart (l : Launch) (G : GT) (σ : SI) (τ : SL) (x0 : Int32) : Mc l yX5_rowStart cX5_rowStart 1 (some .int) 1 G [.int x0] σ τ (Qi G (Ei (f5_rowStart x0) σ τ)) := by
  refine m_start (by decide +kernel) (Nat.le_of_ble_eq_true rfl) rfl (fun p e s m args below meth c ls X I hl => ?_)
  have hl : lv_has ls 1 [(0, .int x0)] := hl
  obtain ⟨E, hE⟩ : ∃ E, E = (f5_rowStart x0) := ⟨_, rfl⟩
  rw [← hE]
  refine lv_iload_n X.1 X.2.1 dX5_rowStart_0 rfl (lv_at hl 0 rfl) ?_
  refine lv_bipush (v := 100) X.1 X.2.1 dX5_rowStart_1 (by decide) ?_
  refine r_ei I (r_runS X I pk_J9_floorMod_7cf53 (cfloorMod l G _ _ _ _ (by decide)) lm_X5_76 rfl hl.1 rfl (Nat.le_of_ble_eq_true rfl) dX5_rowStart_3 ⟨Nat.le_of_ble_eq_true rfl, Nat.le_of_ble_eq_true rfl⟩ ⟨Nat.le_refl 0, Nat.le_refl 0⟩) (fun H locs I => ?_)
  refine lv_iconst (v := 4) X.1 X.2.1 dX5_rowStart_6 (by decide) ?_
  refine lv_imul X.1 X.2.1 dX5_rowStart_7 ?_
  have h9 := hE
  exact r_iret X I (e_i (h9).symm rfl rfl) dX5_rowStart_8
def f5_note (k1 : Nat) (σ : SI) (x2 : Int32) (x3 : Int32) (x4 : Int32) : SI := let s0 := (f11_setCell 28 400 σ (f5_rowStart (σ k1 8)) x2); let s1 := (f11_setCell 28 400 s0 ((f5_rowStart (σ k1 8)) + (1 : Int32)) x3); let s2 := (f11_setCell 28 400 s1 ((f5_rowStart (σ k1 8)) + (2 : Int32)) x4); let s3 := (f11_setCell 28 400 s2 ((f5_rowStart (σ k1 8)) + (3 : Int32)) (s2 k1 2)); let s4 := sp s3 k1 8 ((s3 k1 8) + (1 : Int32)); s4
theorem w_f5_note {k1 : Nat} (σ : SI) (x2 : Int32) (x3 : Int32) (x4 : Int32) (a : Nat) (h0 : a ≠ 28) (h1 : a ≠ k1) : (f5_note k1 σ x2 x3 x4) a = σ a := by
  unfold f5_note
  (repeat' split) <;> (first | rfl | (simp only [sp_n, su_n, ne_eq, not_false_eq_true, h0, h1, w_f11_setCell]; done) | (simp [sp_n, su_n, ne_eq, not_false_eq_true, h0, h1, w_f11_setCell]; done))
set_option maxHeartbeats 4000000 in
set_option maxRecDepth 100000 in
theorem c5_note (l : Launch) (G : GT) {k1 : Nat} (hk1 : isDay k1) (σ : SI) (τ : SL) (x2 : Int32) (x3 : Int32) (x4 : Int32) : Mc l yX5_note cX5_note 6 none 2 G [.ref (G.2.1 26), .ref (G.2.1 k1), .int x2, .int x3, .int x4] σ τ (Qv G (Ev (f5_note k1 σ x2 x3 x4) τ)) := by
  refine m_start (by decide +kernel) (Nat.le_of_ble_eq_true rfl) rfl (fun p e s m args below meth c ls X I hl => ?_)
  have hl : lv_has ls 6 [(0, .ref (G.2.1 26)), (1, .ref (G.2.1 k1)), (2, .int x2), (3, .int x3), (4, .int x4)] := hl
  obtain ⟨E, hE⟩ : ∃ E, E = (f5_note k1 σ x2 x3 x4) := ⟨_, rfl⟩
  rw [← hE]
  refine lv_aload_n X.1 X.2.1 dX5_note_0 rfl (lv_at hl 1 rfl) ?_
  refine g0_8 X I (k := k1) (Nat.lt_of_le_of_lt (Nat.add_le_add_left (show 0 ≤ 1 by decide) k1) hk1.1) hk1.2.1 lf_X5_54 dX5_note_1 ?_
  refine r_ei I (r_runS X I pk_X5_rowStart (c5_rowStart l G _ _ _) lm_X5_57 rfl hl.1 rfl (Nat.le_of_ble_eq_true rfl) dX5_note_4 ⟨Nat.le_of_ble_eq_true rfl, Nat.le_of_ble_eq_true rfl⟩ ⟨Nat.le_refl 0, Nat.le_refl 0⟩) (fun H locs I => ?_)
  refine lv_istore (lv' := [(5, .int _), (0, .ref _), (1, .ref _), (2, .int _), (3, .int _), (4, .int _)]) X.1 X.2.1 dX5_note_7 hl (by decide) rfl (fun ls hl => ?_)
  refine lv_aload_n X.1 X.2.1 dX5_note_9 rfl (lv_at hl 1 rfl) ?_
  refine g5_1 X I (k := 26) (by decide) rfl lf_X5_18 dX5_note_10 ?_
  refine lv_iload X.1 X.2.1 dX5_note_13 (lv_at hl 0 rfl) ?_
  refine lv_iload_n X.1 X.2.1 dX5_note_15 rfl (lv_at hl 3 rfl) ?_
  refine r_ev I (r_runN X I pk_X11_setCell (c11_setCell l G (k := 28) (n := 400) (by decide) rfl (by decide) _ _ _ _) (by decide +kernel) rfl hl.1 rfl (Nat.le_of_ble_eq_true rfl) dX5_note_16 ⟨Nat.le_of_ble_eq_true rfl, Nat.le_of_ble_eq_true rfl⟩ ⟨Nat.le_refl 0, Nat.le_refl 0⟩) (fun H locs I => ?_)
  refine lv_aload_n X.1 X.2.1 dX5_note_19 rfl (lv_at hl 1 rfl) ?_
  refine g5_1 X I (k := 26) (by decide) rfl lf_X5_18 dX5_note_20 ?_
  refine lv_iload X.1 X.2.1 dX5_note_23 (lv_at hl 0 rfl) ?_
  refine lv_iconst (v := 1) X.1 X.2.1 dX5_note_25 (by decide) ?_
  refine lv_iadd X.1 X.2.1 dX5_note_26 ?_
  refine lv_iload_n X.1 X.2.1 dX5_note_27 rfl (lv_at hl 4 rfl) ?_
  refine r_ev I (r_runN X I pk_X11_setCell (c11_setCell l G (k := 28) (n := 400) (by decide) rfl (by decide) _ _ _ _) (by decide +kernel) rfl hl.1 rfl (Nat.le_of_ble_eq_true rfl) dX5_note_28 ⟨Nat.le_of_ble_eq_true rfl, Nat.le_of_ble_eq_true rfl⟩ ⟨Nat.le_refl 0, Nat.le_refl 0⟩) (fun H locs I => ?_)
  refine lv_aload_n X.1 X.2.1 dX5_note_31 rfl (lv_at hl 1 rfl) ?_
  refine g5_1 X I (k := 26) (by decide) rfl lf_X5_18 dX5_note_32 ?_
  refine lv_iload X.1 X.2.1 dX5_note_35 (lv_at hl 0 rfl) ?_
  refine lv_iconst (v := 2) X.1 X.2.1 dX5_note_37 (by decide) ?_
  refine lv_iadd X.1 X.2.1 dX5_note_38 ?_
  refine lv_iload X.1 X.2.1 dX5_note_39 (lv_at hl 5 rfl) ?_
  refine r_ev I (r_runN X I pk_X11_setCell (c11_setCell l G (k := 28) (n := 400) (by decide) rfl (by decide) _ _ _ _) (by decide +kernel) rfl hl.1 rfl (Nat.le_of_ble_eq_true rfl) dX5_note_41 ⟨Nat.le_of_ble_eq_true rfl, Nat.le_of_ble_eq_true rfl⟩ ⟨Nat.le_refl 0, Nat.le_refl 0⟩) (fun H locs I => ?_)
  refine lv_aload_n X.1 X.2.1 dX5_note_44 rfl (lv_at hl 1 rfl) ?_
  refine g5_1 X I (k := 26) (by decide) rfl lf_X5_18 dX5_note_45 ?_
  refine lv_iload X.1 X.2.1 dX5_note_48 (lv_at hl 0 rfl) ?_
  refine lv_iconst (v := 3) X.1 X.2.1 dX5_note_50 (by decide) ?_
  refine lv_iadd X.1 X.2.1 dX5_note_51 ?_
  refine lv_aload_n X.1 X.2.1 dX5_note_52 rfl (lv_at hl 2 rfl) ?_
  refine g0_2 X I (k := k1) (Nat.lt_of_le_of_lt (Nat.add_le_add_left (show 0 ≤ 1 by decide) k1) hk1.1) hk1.2.1 lf_X5_65 dX5_note_53 ?_
  refine r_ev I (r_runN X I pk_X11_setCell (c11_setCell l G (k := 28) (n := 400) (by decide) rfl (by decide) _ _ _ _) (by decide +kernel) rfl hl.1 rfl (Nat.le_of_ble_eq_true rfl) dX5_note_56 ⟨Nat.le_of_ble_eq_true rfl, Nat.le_of_ble_eq_true rfl⟩ ⟨Nat.le_refl 0, Nat.le_refl 0⟩) (fun H locs I => ?_)
  refine lv_aload_n X.1 X.2.1 dX5_note_59 rfl (lv_at hl 2 rfl) ?_
  refine lv_dup X.1 X.2.1 dX5_note_60 rfl ?_
  refine g0_8 X I (k := k1) (Nat.lt_of_le_of_lt (Nat.add_le_add_left (show 0 ≤ 1 by decide) k1) hk1.1) hk1.2.1 lf_X5_54 dX5_note_61 ?_
  refine lv_iconst (v := 1) X.1 X.2.1 dX5_note_64 (by decide) ?_
  refine lv_iadd X.1 X.2.1 dX5_note_65 ?_
  refine p0_8 X I (k := k1) (Nat.lt_of_le_of_lt (Nat.add_le_add_left (show 0 ≤ 1 by decide) k1) hk1.1) hk1.2.1 lf_X5_54 dX5_note_66 (fun H locs I => ?_)
  have h9 := hE
  exact r_vret X I (e_v (h9).symm rfl) dX5_note_69
def f5_noted (k1 : Nat) (σ : SI) (x2 : Int32) (x3 : Int32) : Int32 := if x2 < (0 : Int32) then (-1 : Int32) else (if (f0_logLength k1 σ) ≤ x2 then (-1 : Int32) else (if x3 < (0 : Int32) then (-1 : Int32) else (if x3 < (4 : Int32) then (f11_cell 28 400 σ ((f5_rowStart (((σ k1 8) - (1 : Int32)) - x2)) + x3)) else (-1 : Int32))))
set_option maxHeartbeats 4000000 in
set_option maxRecDepth 100000 in
theorem c5_noted (l : Launch) (G : GT) {k1 : Nat} (hk1 : isDay k1) (σ : SI) (τ : SL) (x2 : Int32) (x3 : Int32) : Mc l yX5_noted cX5_noted 4 (some .int) 2 G [.ref (G.2.1 26), .ref (G.2.1 k1), .int x2, .int x3] σ τ (Qi G (Ei (f5_noted k1 σ x2 x3) σ τ)) := by
  refine m_start (by decide +kernel) (Nat.le_of_ble_eq_true rfl) rfl (fun p e s m args below meth c ls X I hl => ?_)
  have hl : lv_has ls 4 [(0, .ref (G.2.1 26)), (1, .ref (G.2.1 k1)), (2, .int x2), (3, .int x3)] := hl
  obtain ⟨E, hE⟩ : ∃ E, E = (f5_noted k1 σ x2 x3) := ⟨_, rfl⟩
  rw [← hE]
  refine lv_iload_n X.1 X.2.1 dX5_noted_0 rfl (lv_at hl 2 rfl) ?_
  refine lv_if_lt (tgt := 21) X.1 X.2.1 dX5_noted_1 (by decide) (fun c_1 => ?_) (fun c_1 => ?_)
  · skip
    refine lv_iconst (v := (-1)) X.1 X.2.1 dX5_noted_21 (by decide) ?_
    have h9 := hE.trans ((if_pos c_1).trans rfl)
    exact r_iret X I (e_i (h9).symm rfl rfl) dX5_noted_22
  · skip
    refine lv_iload_n X.1 X.2.1 dX5_noted_4 rfl (lv_at hl 2 rfl) ?_
    refine lv_aload_n X.1 X.2.1 dX5_noted_5 rfl (lv_at hl 1 rfl) ?_
    refine r_ei I (r_runV X I pk_X0_logLength (c0_logLength l G (k := k1) hk1 _ _) lm_X5_68 (Nat.lt_of_le_of_lt (Nat.add_le_add_left (show 0 ≤ 1 by decide) k1) hk1.1) (cl_0 hk1.2.1) rfl rfl rfl hl.1 rfl (Nat.le_of_ble_eq_true rfl) dX5_noted_6 ⟨Nat.le_of_ble_eq_true rfl, Nat.le_of_ble_eq_true rfl⟩ ⟨Nat.le_refl 0, Nat.le_refl 0⟩) (fun H locs I => ?_)
    refine lv_icmp_ge (tgt := 21) X.1 X.2.1 dX5_noted_9 (by decide) (fun c_2 => ?_) (fun c_2 => ?_)
    · skip
      refine lv_iconst (v := (-1)) X.1 X.2.1 dX5_noted_21 (by decide) ?_
      have h9 := hE.trans ((if_neg c_1).trans ((if_pos c_2).trans rfl))
      exact r_iret X I (e_i (h9).symm rfl rfl) dX5_noted_22
    · skip
      refine lv_iload_n X.1 X.2.1 dX5_noted_12 rfl (lv_at hl 3 rfl) ?_
      refine lv_if_lt (tgt := 21) X.1 X.2.1 dX5_noted_13 (by decide) (fun c_3 => ?_) (fun c_3 => ?_)
      · skip
        refine lv_iconst (v := (-1)) X.1 X.2.1 dX5_noted_21 (by decide) ?_
        have h9 := hE.trans ((if_neg c_1).trans ((if_neg c_2).trans ((if_pos c_3).trans rfl)))
        exact r_iret X I (e_i (h9).symm rfl rfl) dX5_noted_22
      · skip
        refine lv_iload_n X.1 X.2.1 dX5_noted_16 rfl (lv_at hl 3 rfl) ?_
        refine lv_iconst (v := 4) X.1 X.2.1 dX5_noted_17 (by decide) ?_
        refine lv_icmp_lt (tgt := 23) X.1 X.2.1 dX5_noted_18 (by decide) (fun c_4 => ?_) (fun c_4 => ?_)
        · skip
          refine lv_aload_n X.1 X.2.1 dX5_noted_23 rfl (lv_at hl 0 rfl) ?_
          refine g5_1 X I (k := 26) (by decide) rfl lf_X5_18 dX5_noted_24 ?_
          refine lv_aload_n X.1 X.2.1 dX5_noted_27 rfl (lv_at hl 1 rfl) ?_
          refine g0_8 X I (k := k1) (Nat.lt_of_le_of_lt (Nat.add_le_add_left (show 0 ≤ 1 by decide) k1) hk1.1) hk1.2.1 lf_X5_54 dX5_noted_28 ?_
          refine lv_iconst (v := 1) X.1 X.2.1 dX5_noted_31 (by decide) ?_
          refine lv_isub X.1 X.2.1 dX5_noted_32 ?_
          refine lv_iload_n X.1 X.2.1 dX5_noted_33 rfl (lv_at hl 2 rfl) ?_
          refine lv_isub X.1 X.2.1 dX5_noted_34 ?_
          refine r_ei I (r_runS X I pk_X5_rowStart (c5_rowStart l G _ _ _) lm_X5_57 rfl hl.1 rfl (Nat.le_of_ble_eq_true rfl) dX5_noted_35 ⟨Nat.le_of_ble_eq_true rfl, Nat.le_of_ble_eq_true rfl⟩ ⟨Nat.le_refl 0, Nat.le_refl 0⟩) (fun H locs I => ?_)
          refine lv_iload_n X.1 X.2.1 dX5_noted_38 rfl (lv_at hl 3 rfl) ?_
          refine lv_iadd X.1 X.2.1 dX5_noted_39 ?_
          refine r_ei I (r_runN X I pk_X11_cell (c11_cell l G (k := 28) (n := 400) (by decide) rfl (by decide) _ _ _) (by decide +kernel) rfl hl.1 rfl (Nat.le_of_ble_eq_true rfl) dX5_noted_40 ⟨Nat.le_of_ble_eq_true rfl, Nat.le_of_ble_eq_true rfl⟩ ⟨Nat.le_refl 0, Nat.le_refl 0⟩) (fun H locs I => ?_)
          have h9 := hE.trans ((if_neg c_1).trans ((if_neg c_2).trans ((if_neg c_3).trans ((if_pos c_4).trans rfl))))
          exact r_iret X I (e_i (h9).symm rfl rfl) dX5_noted_43
        · skip
          refine lv_iconst (v := (-1)) X.1 X.2.1 dX5_noted_21 (by decide) ?_
          have h9 := hE.trans ((if_neg c_1).trans ((if_neg c_2).trans ((if_neg c_3).trans ((if_neg c_4).trans rfl))))
          exact r_iret X I (e_i (h9).symm rfl rfl) dX5_noted_22
def f5_draw (k1 : Nat) (σ : SI) : SI := let s0 := (f0_copy 29 k1 σ); let s1 := su s0 31 (va_cpy (s0 28) (s0 31) 0 0 400); let s2 := sp s1 26 6 (1 : Int32); s2
theorem w_f5_draw {k1 : Nat} (σ : SI) (a : Nat) (h0 : a ≠ 26) (h1 : a ≠ 29) (h2 : a ≠ 30) (h3 : a ≠ 31) : (f5_draw k1 σ) a = σ a := by
  unfold f5_draw
  (repeat' split) <;> (first | rfl | (simp only [sp_n, su_n, ne_eq, not_false_eq_true, h0, h1, h2, h3, w_f0_copy]; done) | (simp [sp_n, su_n, ne_eq, not_false_eq_true, h0, h1, h2, h3, w_f0_copy]; done))
set_option maxHeartbeats 4000000 in
set_option maxRecDepth 100000 in
theorem c5_draw (l : Launch) (G : GT) {k1 : Nat} (hk1 : isDay k1) (σ : SI) (τ : SL) : Mc l yX5_draw cX5_draw 2 none 3 G [.ref (G.2.1 26), .ref (G.2.1 k1)] σ τ (Qv G (Ev (f5_draw k1 σ) τ)) := by
  refine m_start (by decide +kernel) (Nat.le_of_ble_eq_true rfl) rfl (fun p e s m args below meth c ls X I hl => ?_)
  have hl : lv_has ls 2 [(0, .ref (G.2.1 26)), (1, .ref (G.2.1 k1))] := hl
  obtain ⟨E, hE⟩ : ∃ E, E = (f5_draw k1 σ) := ⟨_, rfl⟩
  rw [← hE]
  refine lv_aload_n X.1 X.2.1 dX5_draw_0 rfl (lv_at hl 0 rfl) ?_
  refine g5_2 X I (k := 26) (by decide) rfl lf_X5_22 dX5_draw_1 ?_
  refine lv_aload_n X.1 X.2.1 dX5_draw_4 rfl (lv_at hl 1 rfl) ?_
  refine r_ev I (r_runV X I pk_X0_copy (c0_copy l G (k := 29) ⟨by decide, rfl, rfl⟩ (k1 := k1) hk1 _ _) lm_X5_44 (by decide) (cl_0 rfl) rfl rfl rfl hl.1 rfl (Nat.le_of_ble_eq_true rfl) dX5_draw_5 ⟨Nat.le_of_ble_eq_true rfl, Nat.le_of_ble_eq_true rfl⟩ ⟨Nat.le_refl 0, Nat.le_refl 0⟩) (fun H locs I => ?_)
  refine lv_aload_n X.1 X.2.1 dX5_draw_8 rfl (lv_at hl 0 rfl) ?_
  refine g5_1 X I (k := 26) (by decide) rfl lf_X5_18 dX5_draw_9 ?_
  refine lv_iconst (v := 0) X.1 X.2.1 dX5_draw_12 (by decide) ?_
  refine lv_aload_n X.1 X.2.1 dX5_draw_13 rfl (lv_at hl 0 rfl) ?_
  refine g5_3 X I (k := 26) (by decide) rfl lf_X5_26 dX5_draw_14 ?_
  refine lv_iconst (v := 0) X.1 X.2.1 dX5_draw_17 (by decide) ?_
  refine lv_sipush (v := 400) X.1 X.2.1 dX5_draw_18 (by decide) ?_
  refine r_copy X I hl.1 (k0 := 28) (n0 := 400) (k1 := 31) (n1 := 400) (by decide) rfl (by decide) rfl (N := 400) (n := 400) (by decide) (by decide) (by decide) rfl (Nat.le_of_ble_eq_true rfl) (Nat.le_of_ble_eq_true rfl) lm_X5_79 dX5_draw_21 (Nat.le_of_ble_eq_true rfl) (Nat.le_of_ble_eq_true rfl) (fun H locs I => ?_)
  refine lv_aload_n X.1 X.2.1 dX5_draw_24 rfl (lv_at hl 0 rfl) ?_
  refine lv_iconst (v := 1) X.1 X.2.1 dX5_draw_25 (by decide) ?_
  refine p5_6 X I (k := 26) (by decide) rfl lf_X5_36 rfl rfl dX5_draw_26 (fun H locs I => ?_)
  have h9 := hE
  exact r_vret X I (e_v (h9).symm rfl) dX5_draw_29
def f5_bringBack (k1 : Nat) (σ : SI) : Bool × SI := if (σ 26 6) = (0 : Int32) then (false, σ) else (let s0 := (f0_copy k1 29 σ); let s1 := su s0 28 (va_cpy (s0 31) (s0 28) 0 0 400); let s2 := sp s1 26 4 (0 : Int32); (true, s2))
theorem w_f5_bringBack {k1 : Nat} (σ : SI) (a : Nat) (h0 : a ≠ 26) (h1 : a ≠ 28) (h2 : a ≠ (k1 + 1)) (h3 : a ≠ k1) : (f5_bringBack k1 σ).2 a = σ a := by
  unfold f5_bringBack
  (repeat' split) <;> (first | rfl | (simp only [sp_n, su_n, ne_eq, not_false_eq_true, h0, h1, h2, h3, w_f0_copy]; done) | (simp [sp_n, su_n, ne_eq, not_false_eq_true, h0, h1, h2, h3, w_f0_copy]; done))
set_option maxHeartbeats 4000000 in
set_option maxRecDepth 100000 in
theorem c5_bringBack (l : Launch) (G : GT) {k1 : Nat} (hk1 : isDay k1) (σ : SI) (τ : SL) : Mc l yX5_bringBack cX5_bringBack 2 (some .boolean) 3 G [.ref (G.2.1 26), .ref (G.2.1 k1)] σ τ (Qi G (Ei (b2i (f5_bringBack k1 σ).1) (f5_bringBack k1 σ).2 τ)) := by
  refine m_start (by decide +kernel) (Nat.le_of_ble_eq_true rfl) rfl (fun p e s m args below meth c ls X I hl => ?_)
  have hl : lv_has ls 2 [(0, .ref (G.2.1 26)), (1, .ref (G.2.1 k1))] := hl
  obtain ⟨E, hE⟩ : ∃ E, E = (f5_bringBack k1 σ) := ⟨_, rfl⟩
  rw [← hE]
  refine lv_aload_n X.1 X.2.1 dX5_bringBack_0 rfl (lv_at hl 0 rfl) ?_
  refine g5_6 X I (k := 26) (by decide) rfl lf_X5_36 dX5_bringBack_1 ?_
  refine lv_if_ne (tgt := 9) X.1 X.2.1 dX5_bringBack_4 (by decide) (fun c_1 => ?_) (fun c_1 => ?_)
  · skip
    refine lv_aload_n X.1 X.2.1 dX5_bringBack_9 rfl (lv_at hl 1 rfl) ?_
    refine lv_aload_n X.1 X.2.1 dX5_bringBack_10 rfl (lv_at hl 0 rfl) ?_
    refine g5_2 X I (k := 26) (by decide) rfl lf_X5_22 dX5_bringBack_11 ?_
    refine r_ev I (r_runV X I pk_X0_copy (c0_copy l G (k := k1) hk1 (k1 := 29) ⟨by decide, rfl, rfl⟩ _ _) lm_X5_44 (Nat.lt_of_le_of_lt (Nat.add_le_add_left (show 0 ≤ 1 by decide) k1) hk1.1) (cl_0 hk1.2.1) rfl rfl rfl hl.1 rfl (Nat.le_of_ble_eq_true rfl) dX5_bringBack_14 ⟨Nat.le_of_ble_eq_true rfl, Nat.le_of_ble_eq_true rfl⟩ ⟨Nat.le_refl 0, Nat.le_refl 0⟩) (fun H locs I => ?_)
    refine lv_aload_n X.1 X.2.1 dX5_bringBack_17 rfl (lv_at hl 0 rfl) ?_
    refine g5_3 X I (k := 26) (by decide) rfl lf_X5_26 dX5_bringBack_18 ?_
    refine lv_iconst (v := 0) X.1 X.2.1 dX5_bringBack_21 (by decide) ?_
    refine lv_aload_n X.1 X.2.1 dX5_bringBack_22 rfl (lv_at hl 0 rfl) ?_
    refine g5_1 X I (k := 26) (by decide) rfl lf_X5_18 dX5_bringBack_23 ?_
    refine lv_iconst (v := 0) X.1 X.2.1 dX5_bringBack_26 (by decide) ?_
    refine lv_sipush (v := 400) X.1 X.2.1 dX5_bringBack_27 (by decide) ?_
    refine r_copy X I hl.1 (k0 := 31) (n0 := 400) (k1 := 28) (n1 := 400) (by decide) rfl (by decide) rfl (N := 400) (n := 400) (by decide) (by decide) (by decide) rfl (Nat.le_of_ble_eq_true rfl) (Nat.le_of_ble_eq_true rfl) lm_X5_79 dX5_bringBack_30 (Nat.le_of_ble_eq_true rfl) (Nat.le_of_ble_eq_true rfl) (fun H locs I => ?_)
    refine lv_aload_n X.1 X.2.1 dX5_bringBack_33 rfl (lv_at hl 0 rfl) ?_
    refine lv_iconst (v := 0) X.1 X.2.1 dX5_bringBack_34 (by decide) ?_
    refine p5_4 X I (k := 26) (by decide) rfl lf_X5_29 dX5_bringBack_35 (fun H locs I => ?_)
    refine lv_iconst (v := 1) X.1 X.2.1 dX5_bringBack_38 (by decide) ?_
    have h9 := hE.trans ((if_neg c_1).trans rfl)
    exact r_zret X I rfl (e_i (congrArg b2i (congrArg Prod.fst h9)).symm (congrArg Prod.snd h9).symm rfl) dX5_bringBack_39
  · skip
    refine lv_iconst (v := 0) X.1 X.2.1 dX5_bringBack_7 (by decide) ?_
    have h9 := hE.trans ((if_pos c_1).trans rfl)
    exact r_zret X I rfl (e_i (congrArg b2i (congrArg Prod.fst h9)).symm (congrArg Prod.snd h9).symm rfl) dX5_bringBack_8
def f6_clear (σ : SI) : SI := let s0 := sp σ 36 2 (0 : Int32); s0
theorem w_f6_clear (σ : SI) (a : Nat) (h0 : a ≠ 36) : (f6_clear σ) a = σ a := by
  unfold f6_clear
  (repeat' split) <;> (first | rfl | (simp only [sp_n, su_n, ne_eq, not_false_eq_true, h0]; done) | (simp [sp_n, su_n, ne_eq, not_false_eq_true, h0]; done))
set_option maxHeartbeats 4000000 in
set_option maxRecDepth 100000 in
theorem c6_clear (l : Launch) (G : GT) (σ : SI) (τ : SL) : Mc l yX6_clear cX6_clear 1 none 0 G [.ref (G.2.1 36)] σ τ (Qv G (Ev (f6_clear σ) τ)) := by
  refine m_start (by decide +kernel) (Nat.le_of_ble_eq_true rfl) rfl (fun p e s m args below meth c ls X I hl => ?_)
  have hl : lv_has ls 1 [(0, .ref (G.2.1 36))] := hl
  obtain ⟨E, hE⟩ : ∃ E, E = (f6_clear σ) := ⟨_, rfl⟩
  rw [← hE]
  refine lv_aload_n X.1 X.2.1 dX6_clear_0 rfl (lv_at hl 0 rfl) ?_
  refine lv_iconst (v := 0) X.1 X.2.1 dX6_clear_1 (by decide) ?_
  refine p6_2 X I (k := 36) (by decide) rfl lf_X6_18 dX6_clear_2 (fun H locs I => ?_)
  have h9 := hE
  exact r_vret X I (e_v (h9).symm rfl) dX6_clear_5
def f6_put_c19 (x1 : Int32) (x2 : Int32) : Nat → Int32 → SI → SI
  | 0, _, σ => σ
  | fu + 1, v3, σ => if v3 ≤ (0 : Int32) then (let s0 := (f11_setCell 37 7 σ v3 x1); let s1 := (f11_setCell 38 7 s0 v3 x2); let s2 := sp s1 36 2 ((s1 36 2) + (1 : Int32)); s2) else (if (f11_cell 38 7 σ (v3 - (1 : Int32))) ≤ x2 then (let s3 := (f11_setCell 37 7 σ v3 x1); let s4 := (f11_setCell 38 7 s3 v3 x2); let s5 := sp s4 36 2 ((s4 36 2) + (1 : Int32)); s5) else (let s6 := (f11_setCell 37 7 σ v3 (f11_cell 37 7 σ (v3 - (1 : Int32)))); let s7 := (f11_setCell 38 7 s6 v3 (f11_cell 38 7 s6 (v3 - (1 : Int32)))); (f6_put_c19 x1 x2 fu (v3 + (-1)) s7)))
def f6_put (σ : SI) (x1 : Int32) (x2 : Int32) : SI := if x2 ≤ (0 : Int32) then σ else (if (σ 36 2) < (7 : Int32) then (f6_put_c19 x1 x2 ((Int32.toInt (σ 36 2)).toNat + 1) (σ 36 2) σ) else σ)
theorem w_f6_put_c19 (x1 : Int32) (x2 : Int32) (a : Nat) (h0 : a ≠ 36) (h1 : a ≠ 37) (h2 : a ≠ 38) : ∀ (fu : Nat) (v3 : Int32) (σ : SI), (f6_put_c19 x1 x2 fu v3 σ) a = σ a := by
  intro fu
  induction fu with
  | zero => intros; rfl
  | succ fu ih =>
    intro v3 σ
    unfold f6_put_c19
    (repeat' split) <;> (first | rfl | (simp only [sp_n, su_n, ne_eq, not_false_eq_true, h0, h1, h2, w_f11_setCell, ih]; done) | (simp [sp_n, su_n, ne_eq, not_false_eq_true, h0, h1, h2, w_f11_setCell, ih]; done))
theorem w_f6_put (σ : SI) (x1 : Int32) (x2 : Int32) (a : Nat) (h0 : a ≠ 36) (h1 : a ≠ 37) (h2 : a ≠ 38) : (f6_put σ x1 x2) a = σ a := by
  unfold f6_put
  (repeat' split) <;> (first | rfl | (simp only [sp_n, su_n, ne_eq, not_false_eq_true, h0, h1, h2, w_f11_setCell, w_f6_put_c19]; done) | (simp [sp_n, su_n, ne_eq, not_false_eq_true, h0, h1, h2, w_f11_setCell, w_f6_put_c19]; done))
set_option maxHeartbeats 4000000 in
set_option maxRecDepth 100000 in
theorem c6_put_c19 {l : Launch} {p : Program} {e : Env} {s : State} {m : MethodId} {args : Array Value} {below : List Frame} {meth : Method} {c : Code} {G : GT} (X : CX p s m args meth c cX6_put RX6 4 none G) {E : SI} (τ : SL) (x1 : Int32) (x2 : Int32) : ∀ (fu : Nat) (v3 : Int32) (σ : SI) (H : Heap) (locs : List Loc) (ls : Array Slot), IX G s H locs σ τ → lv_has ls 4 [(0, .ref (G.2.1 36)), (1, .int x1), (2, .int x2), (3, .int v3)] → (Int32.toInt v3).toNat < fu → E = (f6_put_c19 x1 x2 fu v3 σ) → W p l e (rmN 1) s m args below meth c H locs 0 0 (MQ below ((Qv G (Ev E τ)) s.heap.size) args s 0 0 (AW G s.heap.size)) (F0 m 19 ls []) := by
  intro fu
  induction fu with
  | zero =>
    intro v3 σ H locs ls I hl  hm hE
    exact absurd hm (Nat.not_lt_zero _)
  | succ fu ih =>
    intro v3 σ H locs ls I hl  hm hE
    refine lv_iload_n X.1 X.2.1 dX6_put_19 rfl (lv_at hl 3 rfl) ?_
    refine lv_if_le (tgt := 79) X.1 X.2.1 dX6_put_20 (by decide) (fun c_3 => ?_) (fun c_3 => ?_)
    · skip
      refine lv_aload_n X.1 X.2.1 dX6_put_79 rfl (lv_at hl 0 rfl) ?_
      refine g6_0 X I (k := 36) (by decide) rfl lf_X6_9 dX6_put_80 ?_
      refine lv_iload_n X.1 X.2.1 dX6_put_83 rfl (lv_at hl 3 rfl) ?_
      refine lv_iload_n X.1 X.2.1 dX6_put_84 rfl (lv_at hl 1 rfl) ?_
      refine r_ev I (r_runN X I pk_X11_setCell (c11_setCell l G (k := 37) (n := 7) (by decide) rfl (by decide) _ _ _ _) (by decide +kernel) rfl hl.1 rfl (Nat.le_of_ble_eq_true rfl) dX6_put_85 ⟨Nat.le_of_ble_eq_true rfl, Nat.le_of_ble_eq_true rfl⟩ ⟨Nat.le_refl 0, Nat.le_refl 0⟩) (fun H locs I => ?_)
      refine lv_aload_n X.1 X.2.1 dX6_put_88 rfl (lv_at hl 0 rfl) ?_
      refine g6_1 X I (k := 36) (by decide) rfl lf_X6_15 dX6_put_89 ?_
      refine lv_iload_n X.1 X.2.1 dX6_put_92 rfl (lv_at hl 3 rfl) ?_
      refine lv_iload_n X.1 X.2.1 dX6_put_93 rfl (lv_at hl 2 rfl) ?_
      refine r_ev I (r_runN X I pk_X11_setCell (c11_setCell l G (k := 38) (n := 7) (by decide) rfl (by decide) _ _ _ _) (by decide +kernel) rfl hl.1 rfl (Nat.le_of_ble_eq_true rfl) dX6_put_94 ⟨Nat.le_of_ble_eq_true rfl, Nat.le_of_ble_eq_true rfl⟩ ⟨Nat.le_refl 0, Nat.le_refl 0⟩) (fun H locs I => ?_)
      refine lv_aload_n X.1 X.2.1 dX6_put_97 rfl (lv_at hl 0 rfl) ?_
      refine lv_dup X.1 X.2.1 dX6_put_98 rfl ?_
      refine g6_2 X I (k := 36) (by decide) rfl lf_X6_18 dX6_put_99 ?_
      refine lv_iconst (v := 1) X.1 X.2.1 dX6_put_102 (by decide) ?_
      refine lv_iadd X.1 X.2.1 dX6_put_103 ?_
      refine p6_2 X I (k := 36) (by decide) rfl lf_X6_18 dX6_put_104 (fun H locs I => ?_)
      have h9 := hE.trans ((if_pos c_3).trans rfl)
      exact r_vret X I (e_v (h9).symm rfl) dX6_put_107
    · skip
      refine lv_aload_n X.1 X.2.1 dX6_put_23 rfl (lv_at hl 0 rfl) ?_
      refine g6_1 X I (k := 36) (by decide) rfl lf_X6_15 dX6_put_24 ?_
      refine lv_iload_n X.1 X.2.1 dX6_put_27 rfl (lv_at hl 3 rfl) ?_
      refine lv_iconst (v := 1) X.1 X.2.1 dX6_put_28 (by decide) ?_
      refine lv_isub X.1 X.2.1 dX6_put_29 ?_
      refine r_ei I (r_runN X I pk_X11_cell (c11_cell l G (k := 38) (n := 7) (by decide) rfl (by decide) _ _ _) (by decide +kernel) rfl hl.1 rfl (Nat.le_of_ble_eq_true rfl) dX6_put_30 ⟨Nat.le_of_ble_eq_true rfl, Nat.le_of_ble_eq_true rfl⟩ ⟨Nat.le_refl 0, Nat.le_refl 0⟩) (fun H locs I => ?_)
      refine lv_iload_n X.1 X.2.1 dX6_put_33 rfl (lv_at hl 2 rfl) ?_
      refine lv_icmp_le (tgt := 79) X.1 X.2.1 dX6_put_34 (by decide) (fun c_4 => ?_) (fun c_4 => ?_)
      · skip
        refine lv_aload_n X.1 X.2.1 dX6_put_79 rfl (lv_at hl 0 rfl) ?_
        refine g6_0 X I (k := 36) (by decide) rfl lf_X6_9 dX6_put_80 ?_
        refine lv_iload_n X.1 X.2.1 dX6_put_83 rfl (lv_at hl 3 rfl) ?_
        refine lv_iload_n X.1 X.2.1 dX6_put_84 rfl (lv_at hl 1 rfl) ?_
        refine r_ev I (r_runN X I pk_X11_setCell (c11_setCell l G (k := 37) (n := 7) (by decide) rfl (by decide) _ _ _ _) (by decide +kernel) rfl hl.1 rfl (Nat.le_of_ble_eq_true rfl) dX6_put_85 ⟨Nat.le_of_ble_eq_true rfl, Nat.le_of_ble_eq_true rfl⟩ ⟨Nat.le_refl 0, Nat.le_refl 0⟩) (fun H locs I => ?_)
        refine lv_aload_n X.1 X.2.1 dX6_put_88 rfl (lv_at hl 0 rfl) ?_
        refine g6_1 X I (k := 36) (by decide) rfl lf_X6_15 dX6_put_89 ?_
        refine lv_iload_n X.1 X.2.1 dX6_put_92 rfl (lv_at hl 3 rfl) ?_
        refine lv_iload_n X.1 X.2.1 dX6_put_93 rfl (lv_at hl 2 rfl) ?_
        refine r_ev I (r_runN X I pk_X11_setCell (c11_setCell l G (k := 38) (n := 7) (by decide) rfl (by decide) _ _ _ _) (by decide +kernel) rfl hl.1 rfl (Nat.le_of_ble_eq_true rfl) dX6_put_94 ⟨Nat.le_of_ble_eq_true rfl, Nat.le_of_ble_eq_true rfl⟩ ⟨Nat.le_refl 0, Nat.le_refl 0⟩) (fun H locs I => ?_)
        refine lv_aload_n X.1 X.2.1 dX6_put_97 rfl (lv_at hl 0 rfl) ?_
        refine lv_dup X.1 X.2.1 dX6_put_98 rfl ?_
        refine g6_2 X I (k := 36) (by decide) rfl lf_X6_18 dX6_put_99 ?_
        refine lv_iconst (v := 1) X.1 X.2.1 dX6_put_102 (by decide) ?_
        refine lv_iadd X.1 X.2.1 dX6_put_103 ?_
        refine p6_2 X I (k := 36) (by decide) rfl lf_X6_18 dX6_put_104 (fun H locs I => ?_)
        have h9 := hE.trans ((if_neg c_3).trans ((if_pos c_4).trans rfl))
        exact r_vret X I (e_v (h9).symm rfl) dX6_put_107
      · skip
        refine lv_aload_n X.1 X.2.1 dX6_put_37 rfl (lv_at hl 0 rfl) ?_
        refine g6_0 X I (k := 36) (by decide) rfl lf_X6_9 dX6_put_38 ?_
        refine lv_iload_n X.1 X.2.1 dX6_put_41 rfl (lv_at hl 3 rfl) ?_
        refine lv_aload_n X.1 X.2.1 dX6_put_42 rfl (lv_at hl 0 rfl) ?_
        refine g6_0 X I (k := 36) (by decide) rfl lf_X6_9 dX6_put_43 ?_
        refine lv_iload_n X.1 X.2.1 dX6_put_46 rfl (lv_at hl 3 rfl) ?_
        refine lv_iconst (v := 1) X.1 X.2.1 dX6_put_47 (by decide) ?_
        refine lv_isub X.1 X.2.1 dX6_put_48 ?_
        refine r_ei I (r_runN X I pk_X11_cell (c11_cell l G (k := 37) (n := 7) (by decide) rfl (by decide) _ _ _) (by decide +kernel) rfl hl.1 rfl (Nat.le_of_ble_eq_true rfl) dX6_put_49 ⟨Nat.le_of_ble_eq_true rfl, Nat.le_of_ble_eq_true rfl⟩ ⟨Nat.le_refl 0, Nat.le_refl 0⟩) (fun H locs I => ?_)
        refine r_ev I (r_runN X I pk_X11_setCell (c11_setCell l G (k := 37) (n := 7) (by decide) rfl (by decide) _ _ _ _) (by decide +kernel) rfl hl.1 rfl (Nat.le_of_ble_eq_true rfl) dX6_put_52 ⟨Nat.le_of_ble_eq_true rfl, Nat.le_of_ble_eq_true rfl⟩ ⟨Nat.le_refl 0, Nat.le_refl 0⟩) (fun H locs I => ?_)
        refine lv_aload_n X.1 X.2.1 dX6_put_55 rfl (lv_at hl 0 rfl) ?_
        refine g6_1 X I (k := 36) (by decide) rfl lf_X6_15 dX6_put_56 ?_
        refine lv_iload_n X.1 X.2.1 dX6_put_59 rfl (lv_at hl 3 rfl) ?_
        refine lv_aload_n X.1 X.2.1 dX6_put_60 rfl (lv_at hl 0 rfl) ?_
        refine g6_1 X I (k := 36) (by decide) rfl lf_X6_15 dX6_put_61 ?_
        refine lv_iload_n X.1 X.2.1 dX6_put_64 rfl (lv_at hl 3 rfl) ?_
        refine lv_iconst (v := 1) X.1 X.2.1 dX6_put_65 (by decide) ?_
        refine lv_isub X.1 X.2.1 dX6_put_66 ?_
        refine r_ei I (r_runN X I pk_X11_cell (c11_cell l G (k := 38) (n := 7) (by decide) rfl (by decide) _ _ _) (by decide +kernel) rfl hl.1 rfl (Nat.le_of_ble_eq_true rfl) dX6_put_67 ⟨Nat.le_of_ble_eq_true rfl, Nat.le_of_ble_eq_true rfl⟩ ⟨Nat.le_refl 0, Nat.le_refl 0⟩) (fun H locs I => ?_)
        refine r_ev I (r_runN X I pk_X11_setCell (c11_setCell l G (k := 38) (n := 7) (by decide) rfl (by decide) _ _ _ _) (by decide +kernel) rfl hl.1 rfl (Nat.le_of_ble_eq_true rfl) dX6_put_70 ⟨Nat.le_of_ble_eq_true rfl, Nat.le_of_ble_eq_true rfl⟩ ⟨Nat.le_refl 0, Nat.le_refl 0⟩) (fun H locs I => ?_)
        refine lv_iinc (v := _ + (-1)) (lv' := [(3, .int _), (0, .ref _), (1, .int _), (2, .int _)]) X.1 X.2.1 dX6_put_73 hl (k := 3) rfl rfl (by decide) rfl (fun ls hl => ?_)
        refine lv_goto (tgt := 19) X.1 X.2.1 dX6_put_76 (by decide) ?_
        exact ih _ _ _ _ _ I (lv_sub hl [1, 2, 3, 0] rfl) (Nat.lt_of_lt_of_le (dn_dec c_3) (Nat.le_of_lt_succ hm)) (hE.trans ((if_neg c_3).trans ((if_neg c_4).trans rfl)))
set_option maxHeartbeats 4000000 in
set_option maxRecDepth 100000 in
theorem c6_put (l : Launch) (G : GT) (σ : SI) (τ : SL) (x1 : Int32) (x2 : Int32) : Mc l yX6_put cX6_put 4 none 1 G [.ref (G.2.1 36), .int x1, .int x2] σ τ (Qv G (Ev (f6_put σ x1 x2) τ)) := by
  refine m_start (by decide +kernel) (Nat.le_of_ble_eq_true rfl) rfl (fun p e s m args below meth c ls X I hl => ?_)
  have hl : lv_has ls 4 [(0, .ref (G.2.1 36)), (1, .int x1), (2, .int x2)] := hl
  obtain ⟨E, hE⟩ : ∃ E, E = (f6_put σ x1 x2) := ⟨_, rfl⟩
  rw [← hE]
  refine lv_iload_n X.1 X.2.1 dX6_put_0 rfl (lv_at hl 2 rfl) ?_
  refine lv_if_le (tgt := 13) X.1 X.2.1 dX6_put_1 (by decide) (fun c_1 => ?_) (fun c_1 => ?_)
  · skip
    have h9 := hE.trans ((if_pos c_1).trans rfl)
    exact r_vret X I (e_v (h9).symm rfl) dX6_put_13
  · skip
    refine lv_aload_n X.1 X.2.1 dX6_put_4 rfl (lv_at hl 0 rfl) ?_
    refine g6_2 X I (k := 36) (by decide) rfl lf_X6_18 dX6_put_5 ?_
    refine lv_bipush (v := 7) X.1 X.2.1 dX6_put_8 (by decide) ?_
    refine lv_icmp_lt (tgt := 14) X.1 X.2.1 dX6_put_10 (by decide) (fun c_2 => ?_) (fun c_2 => ?_)
    · skip
      refine lv_aload_n X.1 X.2.1 dX6_put_14 rfl (lv_at hl 0 rfl) ?_
      refine g6_2 X I (k := 36) (by decide) rfl lf_X6_18 dX6_put_15 ?_
      refine lv_istore_n (lv' := [(3, .int _), (0, .ref _), (1, .int _), (2, .int _)]) X.1 X.2.1 dX6_put_18 rfl hl (by decide) rfl (fun ls hl => ?_)
      exact c6_put_c19 X _ _ _ _ _ _ _ _ _ I (lv_sub hl [1, 2, 3, 0] rfl) (Nat.lt_succ_self _) (hE.trans ((if_neg c_1).trans ((if_pos c_2).trans rfl)))
    · skip
      have h9 := hE.trans ((if_neg c_1).trans ((if_neg c_2).trans rfl))
      exact r_vret X I (e_v (h9).symm rfl) dX6_put_13
def f6_size (σ : SI) : Int32 := (σ 36 2)
set_option maxHeartbeats 4000000 in
set_option maxRecDepth 100000 in
theorem c6_size (l : Launch) (G : GT) (σ : SI) (τ : SL) : Mc l yX6_size cX6_size 1 (some .int) 0 G [.ref (G.2.1 36)] σ τ (Qi G (Ei (f6_size σ) σ τ)) := by
  refine m_start (by decide +kernel) (Nat.le_of_ble_eq_true rfl) rfl (fun p e s m args below meth c ls X I hl => ?_)
  have hl : lv_has ls 1 [(0, .ref (G.2.1 36))] := hl
  obtain ⟨E, hE⟩ : ∃ E, E = (f6_size σ) := ⟨_, rfl⟩
  rw [← hE]
  refine lv_aload_n X.1 X.2.1 dX6_size_0 rfl (lv_at hl 0 rfl) ?_
  refine g6_2 X I (k := 36) (by decide) rfl lf_X6_18 dX6_size_1 ?_
  have h9 := hE
  exact r_iret X I (e_i (h9).symm rfl rfl) dX6_size_4
def f6_houseAt (σ : SI) (x1 : Int32) : Int32 := if x1 < (0 : Int32) then (-1 : Int32) else (if (σ 36 2) ≤ x1 then (-1 : Int32) else (f11_cell 37 7 σ x1))
set_option maxHeartbeats 4000000 in
set_option maxRecDepth 100000 in
theorem c6_houseAt (l : Launch) (G : GT) (σ : SI) (τ : SL) (x1 : Int32) : Mc l yX6_houseAt cX6_houseAt 2 (some .int) 1 G [.ref (G.2.1 36), .int x1] σ τ (Qi G (Ei (f6_houseAt σ x1) σ τ)) := by
  refine m_start (by decide +kernel) (Nat.le_of_ble_eq_true rfl) rfl (fun p e s m args below meth c ls X I hl => ?_)
  have hl : lv_has ls 2 [(0, .ref (G.2.1 36)), (1, .int x1)] := hl
  obtain ⟨E, hE⟩ : ∃ E, E = (f6_houseAt σ x1) := ⟨_, rfl⟩
  rw [← hE]
  refine lv_iload_n X.1 X.2.1 dX6_houseAt_0 rfl (lv_at hl 1 rfl) ?_
  refine lv_if_lt (tgt := 23) X.1 X.2.1 dX6_houseAt_1 (by decide) (fun c_1 => ?_) (fun c_1 => ?_)
  · skip
    refine lv_iconst (v := (-1)) X.1 X.2.1 dX6_houseAt_23 (by decide) ?_
    have h9 := hE.trans ((if_pos c_1).trans rfl)
    exact r_iret X I (e_i (h9).symm rfl rfl) dX6_houseAt_24
  · skip
    refine lv_iload_n X.1 X.2.1 dX6_houseAt_4 rfl (lv_at hl 1 rfl) ?_
    refine lv_aload_n X.1 X.2.1 dX6_houseAt_5 rfl (lv_at hl 0 rfl) ?_
    refine g6_2 X I (k := 36) (by decide) rfl lf_X6_18 dX6_houseAt_6 ?_
    refine lv_icmp_ge (tgt := 23) X.1 X.2.1 dX6_houseAt_9 (by decide) (fun c_2 => ?_) (fun c_2 => ?_)
    · skip
      refine lv_iconst (v := (-1)) X.1 X.2.1 dX6_houseAt_23 (by decide) ?_
      have h9 := hE.trans ((if_neg c_1).trans ((if_pos c_2).trans rfl))
      exact r_iret X I (e_i (h9).symm rfl rfl) dX6_houseAt_24
    · skip
      refine lv_aload_n X.1 X.2.1 dX6_houseAt_12 rfl (lv_at hl 0 rfl) ?_
      refine g6_0 X I (k := 36) (by decide) rfl lf_X6_9 dX6_houseAt_13 ?_
      refine lv_iload_n X.1 X.2.1 dX6_houseAt_16 rfl (lv_at hl 1 rfl) ?_
      refine r_ei I (r_runN X I pk_X11_cell (c11_cell l G (k := 37) (n := 7) (by decide) rfl (by decide) _ _ _) (by decide +kernel) rfl hl.1 rfl (Nat.le_of_ble_eq_true rfl) dX6_houseAt_17 ⟨Nat.le_of_ble_eq_true rfl, Nat.le_of_ble_eq_true rfl⟩ ⟨Nat.le_refl 0, Nat.le_refl 0⟩) (fun H locs I => ?_)
      refine lv_goto (tgt := 24) X.1 X.2.1 dX6_houseAt_20 (by decide) ?_
      have h9 := hE.trans ((if_neg c_1).trans ((if_neg c_2).trans rfl))
      exact r_iret X I (e_i (h9).symm rfl rfl) dX6_houseAt_24
def f11_partsBehind (Tf : SI → Int32 → Int32 → Int32 → Int32 → Int64 → Int64 × SI) (σ : SI) (x1 : Int32) (x2 : Int32) (x3 : Int32) (x4 : Int32) (x5 : Int64) : Int64 × SI := if x1 = (0 : Int32) then (let r2 := (f2_standing σ (f0_grievanceOf 24 σ (f6_houseAt σ x1)) (f8_isThankful 10 σ (f6_houseAt σ x1)) x4 ((f0_doors 24 σ) + x1) (f8_distance 10 σ (σ 24 4) (f6_houseAt σ x1)) (σ 24 6)); if (x4 + r2.1) ≤ (f8_timeThereIs 10 r2.2) then (let r3 := (Tf r2.2 (x1 + (1 : Int32)) x2 x3 (x4 + r2.1) x5); (r3.1, r3.2)) else ((0 : Int64), r2.2)) else (let r0 := (f2_standing σ (f0_grievanceOf 24 σ (f6_houseAt σ x1)) (f8_isThankful 10 σ (f6_houseAt σ x1)) x4 ((f0_doors 24 σ) + x1) (f8_distance 10 σ (f6_houseAt σ (x1 - (1 : Int32))) (f6_houseAt σ x1)) (σ 24 6)); if (x4 + r0.1) ≤ (f8_timeThereIs 10 r0.2) then (let r1 := (Tf r0.2 (x1 + (1 : Int32)) x2 x3 (x4 + r0.1) x5); (r1.1, r1.2)) else ((0 : Int64), r0.2))
theorem w_f11_partsBehind {Tf : SI → Int32 → Int32 → Int32 → Int32 → Int64 → Int64 × SI} (hT : ∀ (σ : SI) (x1 : Int32) (x2 : Int32) (x3 : Int32) (x4 : Int32) (x5 : Int64) (b : Nat), b ≠ 13 → b ≠ 15 → (Tf σ x1 x2 x3 x4 x5).2 b = σ b) (σ : SI) (x1 : Int32) (x2 : Int32) (x3 : Int32) (x4 : Int32) (x5 : Int64) (a : Nat) (h0 : a ≠ 13) (h1 : a ≠ 15) : (f11_partsBehind Tf σ x1 x2 x3 x4 x5).2 a = σ a := by
  unfold f11_partsBehind
  (repeat' split) <;> (first | rfl | (simp only [sp_n, su_n, ne_eq, not_false_eq_true, h0, h1, w_f2_standing, hT]; done) | (simp [sp_n, su_n, ne_eq, not_false_eq_true, h0, h1, w_f2_standing, hT]; done))
set_option maxHeartbeats 4000000 in
set_option maxRecDepth 100000 in
theorem c11_partsBehind (l : Launch) (G : GT) {Tf : SI → Int32 → Int32 → Int32 → Int32 → Int64 → Int64 × SI} {D : Nat} (hT : ∀ (σ : SI) (τ : SL) (x1 : Int32) (x2 : Int32) (x3 : Int32) (x4 : Int32) (x5 : Int64), (Int32.toInt 7 - Int32.toInt x1).toNat < D → Mc l yX11_partsThrough cX11_partsThrough 11 (some .long) (20 + 2 * D) G [.ref (G.2.1 0), .int x1, .int x2, .int x3, .int x4, .long x5] σ τ (Ql G (El (Tf σ x1 x2 x3 x4 x5).1 (Tf σ x1 x2 x3 x4 x5).2 τ))) (σ : SI) (τ : SL) (x1 : Int32) (x2 : Int32) (x3 : Int32) (x4 : Int32) (x5 : Int64) (hx : (Int32.toInt 7 - Int32.toInt (x1 + 1)).toNat < D) : Mc l yX11_partsBehind cX11_partsBehind 11 (some .long) (20 + 2 * D + 1) G [.ref (G.2.1 0), .int x1, .int x2, .int x3, .int x4, .long x5] σ τ (Ql G (El (f11_partsBehind Tf σ x1 x2 x3 x4 x5).1 (f11_partsBehind Tf σ x1 x2 x3 x4 x5).2 τ)) := by
  refine m_start (by decide +kernel) (Nat.le_of_ble_eq_true rfl) rfl (fun p e s m args below meth c ls X I hl => ?_)
  have hl : lv_has ls 11 [(0, .ref (G.2.1 0)), (1, .int x1), (2, .int x2), (3, .int x3), (4, .int x4), (5, .long x5)] := hl
  obtain ⟨E, hE⟩ : ∃ E, E = (f11_partsBehind Tf σ x1 x2 x3 x4 x5) := ⟨_, rfl⟩
  rw [← hE]
  refine lv_aload_n X.1 X.2.1 dX11_partsBehind_0 rfl (lv_at hl 0 rfl) ?_
  refine g11_9 X I (k := 0) (by decide) rfl lf_X11_79 dX11_partsBehind_1 ?_
  refine lv_iload_n X.1 X.2.1 dX11_partsBehind_4 rfl (lv_at hl 1 rfl) ?_
  refine r_ei I (r_runV X I pk_X6_houseAt (c6_houseAt l G _ _ _) lm_X11_336 (by decide) (cl_6 rfl) rfl rfl rfl hl.1 rfl (Nat.le_of_ble_eq_true rfl) dX11_partsBehind_5 (hr_le (by omega) (by decide)) ⟨Nat.le_refl 0, Nat.le_refl 0⟩) (fun H locs I => ?_)
  refine lv_istore (lv' := [(7, .int _), (0, .ref _), (1, .int _), (2, .int _), (3, .int _), (4, .int _), (5, .long _)]) X.1 X.2.1 dX11_partsBehind_8 hl (by decide) rfl (fun ls hl => ?_)
  refine lv_aload_n X.1 X.2.1 dX11_partsBehind_10 rfl (lv_at hl 1 rfl) ?_
  refine g11_3 X I (k := 0) (by decide) rfl lf_X11_35 dX11_partsBehind_11 ?_
  refine lv_iload_n X.1 X.2.1 dX11_partsBehind_14 rfl (lv_at hl 2 rfl) ?_
  refine lv_if_ne (tgt := 28) X.1 X.2.1 dX11_partsBehind_15 (by decide) (fun c_1 => ?_) (fun c_1 => ?_)
  · skip
    refine lv_aload_n X.1 X.2.1 dX11_partsBehind_28 rfl (lv_at hl 1 rfl) ?_
    refine g11_9 X I (k := 0) (by decide) rfl lf_X11_79 dX11_partsBehind_29 ?_
    refine lv_iload_n X.1 X.2.1 dX11_partsBehind_32 rfl (lv_at hl 2 rfl) ?_
    refine lv_iconst (v := 1) X.1 X.2.1 dX11_partsBehind_33 (by decide) ?_
    refine lv_isub X.1 X.2.1 dX11_partsBehind_34 ?_
    refine r_ei I (r_runV X I pk_X6_houseAt (c6_houseAt l G _ _ _) lm_X11_336 (by decide) (cl_6 rfl) rfl rfl rfl hl.1 rfl (Nat.le_of_ble_eq_true rfl) dX11_partsBehind_35 (hr_le (by omega) (by decide)) ⟨Nat.le_refl 0, Nat.le_refl 0⟩) (fun H locs I => ?_)
    refine lv_iload X.1 X.2.1 dX11_partsBehind_38 (lv_at hl 0 rfl) ?_
    refine r_ei I (r_runV X I pk_X8_distance (c8_distance l G (k := 10) ⟨by decide, rfl, rfl, rfl⟩ _ _ _ _) lm_X11_206 (by decide) (cl_8 rfl) rfl rfl rfl hl.1 rfl (Nat.le_of_ble_eq_true rfl) dX11_partsBehind_40 (hr_le (by omega) (by decide)) ⟨Nat.le_refl 0, Nat.le_refl 0⟩) (fun H locs I => ?_)
    refine lv_istore (lv' := [(8, .int _), (7, .int _), (0, .ref _), (1, .int _), (2, .int _), (3, .int _), (4, .int _), (5, .long _)]) X.1 X.2.1 dX11_partsBehind_43 hl (by decide) rfl (fun ls hl => ?_)
    refine lv_aload_n X.1 X.2.1 dX11_partsBehind_45 rfl (lv_at hl 2 rfl) ?_
    refine g11_5 X I (k := 0) (by decide) rfl lf_X11_49 dX11_partsBehind_46 ?_
    refine lv_iload X.1 X.2.1 dX11_partsBehind_49 (lv_at hl 1 rfl) ?_
    refine r_ei I (r_runV X I pk_X0_grievanceOf (c0_grievanceOf l G (k := 24) ⟨by decide, rfl, rfl⟩ _ _ _) lm_X11_185 (by decide) (cl_0 rfl) rfl rfl rfl hl.1 rfl (Nat.le_of_ble_eq_true rfl) dX11_partsBehind_51 (hr_le (by omega) (by decide)) ⟨Nat.le_refl 0, Nat.le_refl 0⟩) (fun H locs I => ?_)
    refine lv_istore (lv' := [(9, .int _), (8, .int _), (7, .int _), (0, .ref _), (1, .int _), (2, .int _), (3, .int _), (4, .int _), (5, .long _)]) X.1 X.2.1 dX11_partsBehind_54 hl (by decide) rfl (fun ls hl => ?_)
    refine lv_aload_n X.1 X.2.1 dX11_partsBehind_56 rfl (lv_at hl 3 rfl) ?_
    refine g11_4 X I (k := 0) (by decide) rfl lf_X11_42 dX11_partsBehind_57 ?_
    refine lv_iload X.1 X.2.1 dX11_partsBehind_60 (lv_at hl 0 rfl) ?_
    refine lv_aload_n X.1 X.2.1 dX11_partsBehind_62 rfl (lv_at hl 3 rfl) ?_
    refine g11_3 X I (k := 0) (by decide) rfl lf_X11_35 dX11_partsBehind_63 ?_
    refine lv_iload X.1 X.2.1 dX11_partsBehind_66 (lv_at hl 2 rfl) ?_
    refine r_ei I (r_runV X I pk_X8_isThankful (c8_isThankful l G (k := 10) ⟨by decide, rfl, rfl, rfl⟩ _ _ _) lm_X11_188 (by decide) (cl_8 rfl) rfl rfl rfl hl.1 rfl (Nat.le_of_ble_eq_true rfl) dX11_partsBehind_68 (hr_le (by omega) (by decide)) ⟨Nat.le_refl 0, Nat.le_refl 0⟩) (fun H locs I => ?_)
    refine lv_iload X.1 X.2.1 dX11_partsBehind_71 (lv_at hl 7 rfl) ?_
    refine lv_aload_n X.1 X.2.1 dX11_partsBehind_73 rfl (lv_at hl 3 rfl) ?_
    refine g11_5 X I (k := 0) (by decide) rfl lf_X11_49 dX11_partsBehind_74 ?_
    refine r_ei I (r_runV X I pk_X0_doors (c0_doors l G (k := 24) ⟨by decide, rfl, rfl⟩ _ _) lm_X11_219 (by decide) (cl_0 rfl) rfl rfl rfl hl.1 rfl (Nat.le_of_ble_eq_true rfl) dX11_partsBehind_77 (hr_le (by omega) (by decide)) ⟨Nat.le_refl 0, Nat.le_refl 0⟩) (fun H locs I => ?_)
    refine lv_iload_n X.1 X.2.1 dX11_partsBehind_80 rfl (lv_at hl 4 rfl) ?_
    refine lv_iadd X.1 X.2.1 dX11_partsBehind_81 ?_
    refine lv_iload X.1 X.2.1 dX11_partsBehind_82 (lv_at hl 1 rfl) ?_
    refine lv_aload_n X.1 X.2.1 dX11_partsBehind_84 rfl (lv_at hl 3 rfl) ?_
    refine g11_5 X I (k := 0) (by decide) rfl lf_X11_49 dX11_partsBehind_85 ?_
    refine g0_6 X I (k := 24) (by decide) rfl lf_X11_222 dX11_partsBehind_88 ?_
    refine r_ei I (r_runV X I pk_X2_standing (c2_standing l G _ _ _ _ _ _ _ _) lm_X11_225 (by decide) (cl_2 rfl) rfl rfl rfl hl.1 rfl (Nat.le_of_ble_eq_true rfl) dX11_partsBehind_91 (hr_le (by omega) (by decide)) ⟨Nat.le_refl 0, Nat.le_refl 0⟩) (fun H locs I => ?_)
    refine lv_istore (lv' := [(10, .int _), (9, .int _), (8, .int _), (7, .int _), (0, .ref _), (1, .int _), (2, .int _), (3, .int _), (4, .int _), (5, .long _)]) X.1 X.2.1 dX11_partsBehind_94 hl (by decide) rfl (fun ls hl => ?_)
    refine lv_iload X.1 X.2.1 dX11_partsBehind_96 (lv_at hl 8 rfl) ?_
    refine lv_iload X.1 X.2.1 dX11_partsBehind_98 (lv_at hl 0 rfl) ?_
    refine lv_iadd X.1 X.2.1 dX11_partsBehind_100 ?_
    refine lv_aload_n X.1 X.2.1 dX11_partsBehind_101 rfl (lv_at hl 4 rfl) ?_
    refine g11_3 X I (k := 0) (by decide) rfl lf_X11_35 dX11_partsBehind_102 ?_
    refine r_ei I (r_runV X I pk_X8_timeThereIs (c8_timeThereIs l G (k := 10) ⟨by decide, rfl, rfl, rfl⟩ _ _) lm_X11_161 (by decide) (cl_8 rfl) rfl rfl rfl hl.1 rfl (Nat.le_of_ble_eq_true rfl) dX11_partsBehind_105 (hr_le (by omega) (by decide)) ⟨Nat.le_refl 0, Nat.le_refl 0⟩) (fun H locs I => ?_)
    refine lv_icmp_le (tgt := 113) X.1 X.2.1 dX11_partsBehind_108 (by decide) (fun c_2 => ?_) (fun c_2 => ?_)
    · skip
      refine lv_aload_n X.1 X.2.1 dX11_partsBehind_113 rfl (lv_at hl 4 rfl) ?_
      refine lv_iload_n X.1 X.2.1 dX11_partsBehind_114 rfl (lv_at hl 5 rfl) ?_
      refine lv_iconst (v := 1) X.1 X.2.1 dX11_partsBehind_115 (by decide) ?_
      refine lv_iadd X.1 X.2.1 dX11_partsBehind_116 ?_
      refine lv_iload_n X.1 X.2.1 dX11_partsBehind_117 rfl (lv_at hl 6 rfl) ?_
      refine lv_iload_n X.1 X.2.1 dX11_partsBehind_118 rfl (lv_at hl 7 rfl) ?_
      refine lv_iload X.1 X.2.1 dX11_partsBehind_119 (lv_at hl 8 rfl) ?_
      refine lv_iload X.1 X.2.1 dX11_partsBehind_121 (lv_at hl 0 rfl) ?_
      refine lv_iadd X.1 X.2.1 dX11_partsBehind_123 ?_
      refine lv_lload X.1 X.2.1 dX11_partsBehind_124 (lv_at hl 9 rfl) ?_
      refine r_el I (r_runV X I pk_X11_partsThrough (hT _ _ _ _ _ _ _ (hx)) lm_X11_440 (by decide) (cl_11 rfl) rfl rfl rfl hl.1 rfl (Nat.le_of_ble_eq_true rfl) dX11_partsBehind_126 (hr_le (by omega) (by decide)) ⟨Nat.le_refl 0, Nat.le_refl 0⟩) (fun H locs I => ?_)
      have h9 := hE.trans ((if_neg c_1).trans ((if_pos c_2).trans rfl))
      exact r_lret X I (e_l (congrArg Prod.fst h9).symm (congrArg Prod.snd h9).symm rfl) dX11_partsBehind_129
    · skip
      refine lv_lconst (v := 0) X.1 X.2.1 dX11_partsBehind_111 rfl ?_
      have h9 := hE.trans ((if_neg c_1).trans ((if_neg c_2).trans rfl))
      exact r_lret X I (e_l (congrArg Prod.fst h9).symm (congrArg Prod.snd h9).symm rfl) dX11_partsBehind_112
  · skip
    refine lv_aload_n X.1 X.2.1 dX11_partsBehind_18 rfl (lv_at hl 1 rfl) ?_
    refine g11_5 X I (k := 0) (by decide) rfl lf_X11_49 dX11_partsBehind_19 ?_
    refine g0_4 X I (k := 24) (by decide) rfl lf_X11_213 dX11_partsBehind_22 ?_
    refine lv_goto (tgt := 38) X.1 X.2.1 dX11_partsBehind_25 (by decide) ?_
    refine lv_iload X.1 X.2.1 dX11_partsBehind_38 (lv_at hl 0 rfl) ?_
    refine r_ei I (r_runV X I pk_X8_distance (c8_distance l G (k := 10) ⟨by decide, rfl, rfl, rfl⟩ _ _ _ _) lm_X11_206 (by decide) (cl_8 rfl) rfl rfl rfl hl.1 rfl (Nat.le_of_ble_eq_true rfl) dX11_partsBehind_40 (hr_le (by omega) (by decide)) ⟨Nat.le_refl 0, Nat.le_refl 0⟩) (fun H locs I => ?_)
    refine lv_istore (lv' := [(8, .int _), (7, .int _), (0, .ref _), (1, .int _), (2, .int _), (3, .int _), (4, .int _), (5, .long _)]) X.1 X.2.1 dX11_partsBehind_43 hl (by decide) rfl (fun ls hl => ?_)
    refine lv_aload_n X.1 X.2.1 dX11_partsBehind_45 rfl (lv_at hl 2 rfl) ?_
    refine g11_5 X I (k := 0) (by decide) rfl lf_X11_49 dX11_partsBehind_46 ?_
    refine lv_iload X.1 X.2.1 dX11_partsBehind_49 (lv_at hl 1 rfl) ?_
    refine r_ei I (r_runV X I pk_X0_grievanceOf (c0_grievanceOf l G (k := 24) ⟨by decide, rfl, rfl⟩ _ _ _) lm_X11_185 (by decide) (cl_0 rfl) rfl rfl rfl hl.1 rfl (Nat.le_of_ble_eq_true rfl) dX11_partsBehind_51 (hr_le (by omega) (by decide)) ⟨Nat.le_refl 0, Nat.le_refl 0⟩) (fun H locs I => ?_)
    refine lv_istore (lv' := [(9, .int _), (8, .int _), (7, .int _), (0, .ref _), (1, .int _), (2, .int _), (3, .int _), (4, .int _), (5, .long _)]) X.1 X.2.1 dX11_partsBehind_54 hl (by decide) rfl (fun ls hl => ?_)
    refine lv_aload_n X.1 X.2.1 dX11_partsBehind_56 rfl (lv_at hl 3 rfl) ?_
    refine g11_4 X I (k := 0) (by decide) rfl lf_X11_42 dX11_partsBehind_57 ?_
    refine lv_iload X.1 X.2.1 dX11_partsBehind_60 (lv_at hl 0 rfl) ?_
    refine lv_aload_n X.1 X.2.1 dX11_partsBehind_62 rfl (lv_at hl 3 rfl) ?_
    refine g11_3 X I (k := 0) (by decide) rfl lf_X11_35 dX11_partsBehind_63 ?_
    refine lv_iload X.1 X.2.1 dX11_partsBehind_66 (lv_at hl 2 rfl) ?_
    refine r_ei I (r_runV X I pk_X8_isThankful (c8_isThankful l G (k := 10) ⟨by decide, rfl, rfl, rfl⟩ _ _ _) lm_X11_188 (by decide) (cl_8 rfl) rfl rfl rfl hl.1 rfl (Nat.le_of_ble_eq_true rfl) dX11_partsBehind_68 (hr_le (by omega) (by decide)) ⟨Nat.le_refl 0, Nat.le_refl 0⟩) (fun H locs I => ?_)
    refine lv_iload X.1 X.2.1 dX11_partsBehind_71 (lv_at hl 7 rfl) ?_
    refine lv_aload_n X.1 X.2.1 dX11_partsBehind_73 rfl (lv_at hl 3 rfl) ?_
    refine g11_5 X I (k := 0) (by decide) rfl lf_X11_49 dX11_partsBehind_74 ?_
    refine r_ei I (r_runV X I pk_X0_doors (c0_doors l G (k := 24) ⟨by decide, rfl, rfl⟩ _ _) lm_X11_219 (by decide) (cl_0 rfl) rfl rfl rfl hl.1 rfl (Nat.le_of_ble_eq_true rfl) dX11_partsBehind_77 (hr_le (by omega) (by decide)) ⟨Nat.le_refl 0, Nat.le_refl 0⟩) (fun H locs I => ?_)
    refine lv_iload_n X.1 X.2.1 dX11_partsBehind_80 rfl (lv_at hl 4 rfl) ?_
    refine lv_iadd X.1 X.2.1 dX11_partsBehind_81 ?_
    refine lv_iload X.1 X.2.1 dX11_partsBehind_82 (lv_at hl 1 rfl) ?_
    refine lv_aload_n X.1 X.2.1 dX11_partsBehind_84 rfl (lv_at hl 3 rfl) ?_
    refine g11_5 X I (k := 0) (by decide) rfl lf_X11_49 dX11_partsBehind_85 ?_
    refine g0_6 X I (k := 24) (by decide) rfl lf_X11_222 dX11_partsBehind_88 ?_
    refine r_ei I (r_runV X I pk_X2_standing (c2_standing l G _ _ _ _ _ _ _ _) lm_X11_225 (by decide) (cl_2 rfl) rfl rfl rfl hl.1 rfl (Nat.le_of_ble_eq_true rfl) dX11_partsBehind_91 (hr_le (by omega) (by decide)) ⟨Nat.le_refl 0, Nat.le_refl 0⟩) (fun H locs I => ?_)
    refine lv_istore (lv' := [(10, .int _), (9, .int _), (8, .int _), (7, .int _), (0, .ref _), (1, .int _), (2, .int _), (3, .int _), (4, .int _), (5, .long _)]) X.1 X.2.1 dX11_partsBehind_94 hl (by decide) rfl (fun ls hl => ?_)
    refine lv_iload X.1 X.2.1 dX11_partsBehind_96 (lv_at hl 8 rfl) ?_
    refine lv_iload X.1 X.2.1 dX11_partsBehind_98 (lv_at hl 0 rfl) ?_
    refine lv_iadd X.1 X.2.1 dX11_partsBehind_100 ?_
    refine lv_aload_n X.1 X.2.1 dX11_partsBehind_101 rfl (lv_at hl 4 rfl) ?_
    refine g11_3 X I (k := 0) (by decide) rfl lf_X11_35 dX11_partsBehind_102 ?_
    refine r_ei I (r_runV X I pk_X8_timeThereIs (c8_timeThereIs l G (k := 10) ⟨by decide, rfl, rfl, rfl⟩ _ _) lm_X11_161 (by decide) (cl_8 rfl) rfl rfl rfl hl.1 rfl (Nat.le_of_ble_eq_true rfl) dX11_partsBehind_105 (hr_le (by omega) (by decide)) ⟨Nat.le_refl 0, Nat.le_refl 0⟩) (fun H locs I => ?_)
    refine lv_icmp_le (tgt := 113) X.1 X.2.1 dX11_partsBehind_108 (by decide) (fun c_3 => ?_) (fun c_3 => ?_)
    · skip
      refine lv_aload_n X.1 X.2.1 dX11_partsBehind_113 rfl (lv_at hl 4 rfl) ?_
      refine lv_iload_n X.1 X.2.1 dX11_partsBehind_114 rfl (lv_at hl 5 rfl) ?_
      refine lv_iconst (v := 1) X.1 X.2.1 dX11_partsBehind_115 (by decide) ?_
      refine lv_iadd X.1 X.2.1 dX11_partsBehind_116 ?_
      refine lv_iload_n X.1 X.2.1 dX11_partsBehind_117 rfl (lv_at hl 6 rfl) ?_
      refine lv_iload_n X.1 X.2.1 dX11_partsBehind_118 rfl (lv_at hl 7 rfl) ?_
      refine lv_iload X.1 X.2.1 dX11_partsBehind_119 (lv_at hl 8 rfl) ?_
      refine lv_iload X.1 X.2.1 dX11_partsBehind_121 (lv_at hl 0 rfl) ?_
      refine lv_iadd X.1 X.2.1 dX11_partsBehind_123 ?_
      refine lv_lload X.1 X.2.1 dX11_partsBehind_124 (lv_at hl 9 rfl) ?_
      refine r_el I (r_runV X I pk_X11_partsThrough (hT _ _ _ _ _ _ _ (hx)) lm_X11_440 (by decide) (cl_11 rfl) rfl rfl rfl hl.1 rfl (Nat.le_of_ble_eq_true rfl) dX11_partsBehind_126 (hr_le (by omega) (by decide)) ⟨Nat.le_refl 0, Nat.le_refl 0⟩) (fun H locs I => ?_)
      have h9 := hE.trans ((if_pos c_1).trans ((if_pos c_3).trans rfl))
      exact r_lret X I (e_l (congrArg Prod.fst h9).symm (congrArg Prod.snd h9).symm rfl) dX11_partsBehind_129
    · skip
      refine lv_lconst (v := 0) X.1 X.2.1 dX11_partsBehind_111 rfl ?_
      have h9 := hE.trans ((if_pos c_1).trans ((if_neg c_3).trans rfl))
      exact r_lret X I (e_l (congrArg Prod.fst h9).symm (congrArg Prod.snd h9).symm rfl) dX11_partsBehind_112
def f11_partsThrough (Bf : SI → Int32 → Int32 → Int32 → Int32 → Int64 → Int64 × SI) (σ : SI) (x1 : Int32) (x2 : Int32) (x3 : Int32) (x4 : Int32) (x5 : Int64) : Int64 × SI := if x2 ≤ x1 then (x5, σ) else (if (7 : Int32) ≤ x1 then (x5, σ) else (if (lg_cmp x5 (0 : Int64)) = (0 : Int32) then (x5, σ) else (if x1 = (0 : Int32) then (let r2 := (Bf σ x1 x2 x3 ((x4 + (f8_distance 10 σ (σ 24 4) (f6_houseAt σ x1))) + ((f8_distance 10 σ (σ 24 4) (f6_houseAt σ x1)) / (2 : Int32))) ((x5 * (Int32.toInt64 x3)) / (100 : Int64))); let r3 := (Bf r2.2 x1 x2 x3 (x4 + (f8_distance 10 σ (σ 24 4) (f6_houseAt σ x1))) (x5 - ((x5 * (Int32.toInt64 x3)) / (100 : Int64)))); ((r2.1 + r3.1), r3.2)) else (let r0 := (Bf σ x1 x2 x3 ((x4 + (f8_distance 10 σ (f6_houseAt σ (x1 - (1 : Int32))) (f6_houseAt σ x1))) + ((f8_distance 10 σ (f6_houseAt σ (x1 - (1 : Int32))) (f6_houseAt σ x1)) / (2 : Int32))) ((x5 * (Int32.toInt64 x3)) / (100 : Int64))); let r1 := (Bf r0.2 x1 x2 x3 (x4 + (f8_distance 10 σ (f6_houseAt σ (x1 - (1 : Int32))) (f6_houseAt σ x1))) (x5 - ((x5 * (Int32.toInt64 x3)) / (100 : Int64)))); ((r0.1 + r1.1), r1.2)))))
theorem w_f11_partsThrough {Bf : SI → Int32 → Int32 → Int32 → Int32 → Int64 → Int64 × SI} (hB : ∀ (σ : SI) (x1 : Int32) (x2 : Int32) (x3 : Int32) (x4 : Int32) (x5 : Int64) (b : Nat), b ≠ 13 → b ≠ 15 → (Bf σ x1 x2 x3 x4 x5).2 b = σ b) (σ : SI) (x1 : Int32) (x2 : Int32) (x3 : Int32) (x4 : Int32) (x5 : Int64) (a : Nat) (h0 : a ≠ 13) (h1 : a ≠ 15) : (f11_partsThrough Bf σ x1 x2 x3 x4 x5).2 a = σ a := by
  unfold f11_partsThrough
  (repeat' split) <;> (first | rfl | (simp only [sp_n, su_n, ne_eq, not_false_eq_true, h0, h1, hB]; done) | (simp [sp_n, su_n, ne_eq, not_false_eq_true, h0, h1, hB]; done))
set_option maxHeartbeats 4000000 in
set_option maxRecDepth 100000 in
theorem c11_partsThrough (l : Launch) (G : GT) {Bf : SI → Int32 → Int32 → Int32 → Int32 → Int64 → Int64 × SI} {D : Nat} (hB : ∀ (σ : SI) (τ : SL) (x1 : Int32) (x2 : Int32) (x3 : Int32) (x4 : Int32) (x5 : Int64), (Int32.toInt 7 - Int32.toInt (x1 + 1)).toNat < D → Mc l yX11_partsBehind cX11_partsBehind 11 (some .long) (20 + 2 * D + 1) G [.ref (G.2.1 0), .int x1, .int x2, .int x3, .int x4, .long x5] σ τ (Ql G (El (Bf σ x1 x2 x3 x4 x5).1 (Bf σ x1 x2 x3 x4 x5).2 τ))) (σ : SI) (τ : SL) (x1 : Int32) (x2 : Int32) (x3 : Int32) (x4 : Int32) (x5 : Int64) (hx : (Int32.toInt 7 - Int32.toInt x1).toNat < D + 1) : Mc l yX11_partsThrough cX11_partsThrough 11 (some .long) (20 + 2 * D + 2) G [.ref (G.2.1 0), .int x1, .int x2, .int x3, .int x4, .long x5] σ τ (Ql G (El (f11_partsThrough Bf σ x1 x2 x3 x4 x5).1 (f11_partsThrough Bf σ x1 x2 x3 x4 x5).2 τ)) := by
  refine m_start (by decide +kernel) (Nat.le_of_ble_eq_true rfl) rfl (fun p e s m args below meth c ls X I hl => ?_)
  have hl : lv_has ls 11 [(0, .ref (G.2.1 0)), (1, .int x1), (2, .int x2), (3, .int x3), (4, .int x4), (5, .long x5)] := hl
  obtain ⟨E, hE⟩ : ∃ E, E = (f11_partsThrough Bf σ x1 x2 x3 x4 x5) := ⟨_, rfl⟩
  rw [← hE]
  refine lv_iload_n X.1 X.2.1 dX11_partsThrough_0 rfl (lv_at hl 1 rfl) ?_
  refine lv_iload_n X.1 X.2.1 dX11_partsThrough_1 rfl (lv_at hl 2 rfl) ?_
  refine lv_icmp_ge (tgt := 18) X.1 X.2.1 dX11_partsThrough_2 (by decide) (fun c_1 => ?_) (fun c_1 => ?_)
  · skip
    refine lv_lload X.1 X.2.1 dX11_partsThrough_18 (lv_at hl 5 rfl) ?_
    have h9 := hE.trans ((if_pos c_1).trans rfl)
    exact r_lret X I (e_l (congrArg Prod.fst h9).symm (congrArg Prod.snd h9).symm rfl) dX11_partsThrough_20
  · skip
    refine lv_iload_n X.1 X.2.1 dX11_partsThrough_5 rfl (lv_at hl 1 rfl) ?_
    refine lv_bipush (v := 7) X.1 X.2.1 dX11_partsThrough_6 (by decide) ?_
    refine lv_icmp_ge (tgt := 18) X.1 X.2.1 dX11_partsThrough_8 (by decide) (fun c_2 => ?_) (fun c_2 => ?_)
    · skip
      refine lv_lload X.1 X.2.1 dX11_partsThrough_18 (lv_at hl 5 rfl) ?_
      have h9 := hE.trans ((if_neg c_1).trans ((if_pos c_2).trans rfl))
      exact r_lret X I (e_l (congrArg Prod.fst h9).symm (congrArg Prod.snd h9).symm rfl) dX11_partsThrough_20
    · skip
      refine lv_lload X.1 X.2.1 dX11_partsThrough_11 (lv_at hl 5 rfl) ?_
      refine lv_lconst (v := 0) X.1 X.2.1 dX11_partsThrough_13 rfl ?_
      refine W.lcmp X.1 X.2.1 dX11_partsThrough_14 ?_
      refine lv_if_ne (tgt := 21) X.1 X.2.1 dX11_partsThrough_15 (by decide) (fun c_3 => ?_) (fun c_3 => ?_)
      · skip
        refine lv_iload_n X.1 X.2.1 dX11_partsThrough_21 rfl (lv_at hl 1 rfl) ?_
        refine lv_if_ne (tgt := 35) X.1 X.2.1 dX11_partsThrough_22 (by decide) (fun c_4 => ?_) (fun c_4 => ?_)
        · skip
          refine lv_aload_n X.1 X.2.1 dX11_partsThrough_35 rfl (lv_at hl 0 rfl) ?_
          refine g11_9 X I (k := 0) (by decide) rfl lf_X11_79 dX11_partsThrough_36 ?_
          refine lv_iload_n X.1 X.2.1 dX11_partsThrough_39 rfl (lv_at hl 1 rfl) ?_
          refine lv_iconst (v := 1) X.1 X.2.1 dX11_partsThrough_40 (by decide) ?_
          refine lv_isub X.1 X.2.1 dX11_partsThrough_41 ?_
          refine r_ei I (r_runV X I pk_X6_houseAt (c6_houseAt l G _ _ _) lm_X11_336 (by decide) (cl_6 rfl) rfl rfl rfl hl.1 rfl (Nat.le_of_ble_eq_true rfl) dX11_partsThrough_42 (hr_le (by omega) (by decide)) ⟨Nat.le_refl 0, Nat.le_refl 0⟩) (fun H locs I => ?_)
          refine lv_istore (lv' := [(7, .int _), (0, .ref _), (1, .int _), (2, .int _), (3, .int _), (4, .int _), (5, .long _)]) X.1 X.2.1 dX11_partsThrough_45 hl (by decide) rfl (fun ls hl => ?_)
          refine lv_aload_n X.1 X.2.1 dX11_partsThrough_47 rfl (lv_at hl 1 rfl) ?_
          refine g11_3 X I (k := 0) (by decide) rfl lf_X11_35 dX11_partsThrough_48 ?_
          refine lv_iload X.1 X.2.1 dX11_partsThrough_51 (lv_at hl 0 rfl) ?_
          refine lv_aload_n X.1 X.2.1 dX11_partsThrough_53 rfl (lv_at hl 1 rfl) ?_
          refine g11_9 X I (k := 0) (by decide) rfl lf_X11_79 dX11_partsThrough_54 ?_
          refine lv_iload_n X.1 X.2.1 dX11_partsThrough_57 rfl (lv_at hl 2 rfl) ?_
          refine r_ei I (r_runV X I pk_X6_houseAt (c6_houseAt l G _ _ _) lm_X11_336 (by decide) (cl_6 rfl) rfl rfl rfl hl.1 rfl (Nat.le_of_ble_eq_true rfl) dX11_partsThrough_58 (hr_le (by omega) (by decide)) ⟨Nat.le_refl 0, Nat.le_refl 0⟩) (fun H locs I => ?_)
          refine r_ei I (r_runV X I pk_X8_distance (c8_distance l G (k := 10) ⟨by decide, rfl, rfl, rfl⟩ _ _ _ _) lm_X11_206 (by decide) (cl_8 rfl) rfl rfl rfl hl.1 rfl (Nat.le_of_ble_eq_true rfl) dX11_partsThrough_61 (hr_le (by omega) (by decide)) ⟨Nat.le_refl 0, Nat.le_refl 0⟩) (fun H locs I => ?_)
          refine lv_istore (lv' := [(8, .int _), (7, .int _), (0, .ref _), (1, .int _), (2, .int _), (3, .int _), (4, .int _), (5, .long _)]) X.1 X.2.1 dX11_partsThrough_64 hl (by decide) rfl (fun ls hl => ?_)
          refine lv_lload X.1 X.2.1 dX11_partsThrough_66 (lv_at hl 7 rfl) ?_
          refine lv_iload_n X.1 X.2.1 dX11_partsThrough_68 rfl (lv_at hl 5 rfl) ?_
          refine lv_i2l X.1 X.2.1 dX11_partsThrough_69 rfl ?_
          refine lv_lmul X.1 X.2.1 dX11_partsThrough_70 ?_
          refine lv_ldc2 X.1 X.2.1 (v := 100) X.2.2.2.2.1 (X.2.2.2.1 _ lq_X11_444) dX11_partsThrough_71 ?_
          refine lv_ldiv X.1 X.2.1 dX11_partsThrough_74 (by decide) ?_
          refine lv_lstore (lv' := [(9, .long _), (8, .int _), (7, .int _), (0, .ref _), (1, .int _), (2, .int _), (3, .int _), (4, .int _), (5, .long _)]) X.1 X.2.1 dX11_partsThrough_75 hl (by decide) rfl (fun ls hl => ?_)
          refine lv_aload_n X.1 X.2.1 dX11_partsThrough_77 rfl (lv_at hl 3 rfl) ?_
          refine lv_iload_n X.1 X.2.1 dX11_partsThrough_78 rfl (lv_at hl 4 rfl) ?_
          refine lv_iload_n X.1 X.2.1 dX11_partsThrough_79 rfl (lv_at hl 5 rfl) ?_
          refine lv_iload_n X.1 X.2.1 dX11_partsThrough_80 rfl (lv_at hl 6 rfl) ?_
          refine lv_iload X.1 X.2.1 dX11_partsThrough_81 (lv_at hl 7 rfl) ?_
          refine lv_iload X.1 X.2.1 dX11_partsThrough_83 (lv_at hl 1 rfl) ?_
          refine lv_iadd X.1 X.2.1 dX11_partsThrough_85 ?_
          refine lv_iload X.1 X.2.1 dX11_partsThrough_86 (lv_at hl 1 rfl) ?_
          refine lv_iconst (v := 2) X.1 X.2.1 dX11_partsThrough_88 (by decide) ?_
          refine lv_idiv X.1 X.2.1 dX11_partsThrough_89 (by decide) ?_
          refine lv_iadd X.1 X.2.1 dX11_partsThrough_90 ?_
          refine lv_lload X.1 X.2.1 dX11_partsThrough_91 (lv_at hl 0 rfl) ?_
          refine r_el I (r_runV X I pk_X11_partsBehind (hB _ _ _ _ _ _ _ (Nat.lt_of_lt_of_le (up_dec c_2) (Nat.le_of_lt_succ hx))) lm_X11_446 (by decide) (cl_11 rfl) rfl rfl rfl hl.1 rfl (Nat.le_of_ble_eq_true rfl) dX11_partsThrough_93 (hr_le (by omega) (by decide)) ⟨Nat.le_refl 0, Nat.le_refl 0⟩) (fun H locs I => ?_)
          refine lv_aload_n X.1 X.2.1 dX11_partsThrough_96 rfl (lv_at hl 3 rfl) ?_
          refine lv_iload_n X.1 X.2.1 dX11_partsThrough_97 rfl (lv_at hl 4 rfl) ?_
          refine lv_iload_n X.1 X.2.1 dX11_partsThrough_98 rfl (lv_at hl 5 rfl) ?_
          refine lv_iload_n X.1 X.2.1 dX11_partsThrough_99 rfl (lv_at hl 6 rfl) ?_
          refine lv_iload X.1 X.2.1 dX11_partsThrough_100 (lv_at hl 7 rfl) ?_
          refine lv_iload X.1 X.2.1 dX11_partsThrough_102 (lv_at hl 1 rfl) ?_
          refine lv_iadd X.1 X.2.1 dX11_partsThrough_104 ?_
          refine lv_lload X.1 X.2.1 dX11_partsThrough_105 (lv_at hl 8 rfl) ?_
          refine lv_lload X.1 X.2.1 dX11_partsThrough_107 (lv_at hl 0 rfl) ?_
          refine lv_lsub X.1 X.2.1 dX11_partsThrough_109 ?_
          refine r_el I (r_runV X I pk_X11_partsBehind (hB _ _ _ _ _ _ _ (Nat.lt_of_lt_of_le (up_dec c_2) (Nat.le_of_lt_succ hx))) lm_X11_446 (by decide) (cl_11 rfl) rfl rfl rfl hl.1 rfl (Nat.le_of_ble_eq_true rfl) dX11_partsThrough_110 (hr_le (by omega) (by decide)) ⟨Nat.le_refl 0, Nat.le_refl 0⟩) (fun H locs I => ?_)
          refine lv_ladd X.1 X.2.1 dX11_partsThrough_113 ?_
          have h9 := hE.trans ((if_neg c_1).trans ((if_neg c_2).trans ((if_neg c_3).trans ((if_neg c_4).trans rfl))))
          exact r_lret X I (e_l (congrArg Prod.fst h9).symm (congrArg Prod.snd h9).symm rfl) dX11_partsThrough_114
        · skip
          refine lv_aload_n X.1 X.2.1 dX11_partsThrough_25 rfl (lv_at hl 0 rfl) ?_
          refine g11_5 X I (k := 0) (by decide) rfl lf_X11_49 dX11_partsThrough_26 ?_
          refine g0_4 X I (k := 24) (by decide) rfl lf_X11_213 dX11_partsThrough_29 ?_
          refine lv_goto (tgt := 45) X.1 X.2.1 dX11_partsThrough_32 (by decide) ?_
          refine lv_istore (lv' := [(7, .int _), (0, .ref _), (1, .int _), (2, .int _), (3, .int _), (4, .int _), (5, .long _)]) X.1 X.2.1 dX11_partsThrough_45 hl (by decide) rfl (fun ls hl => ?_)
          refine lv_aload_n X.1 X.2.1 dX11_partsThrough_47 rfl (lv_at hl 1 rfl) ?_
          refine g11_3 X I (k := 0) (by decide) rfl lf_X11_35 dX11_partsThrough_48 ?_
          refine lv_iload X.1 X.2.1 dX11_partsThrough_51 (lv_at hl 0 rfl) ?_
          refine lv_aload_n X.1 X.2.1 dX11_partsThrough_53 rfl (lv_at hl 1 rfl) ?_
          refine g11_9 X I (k := 0) (by decide) rfl lf_X11_79 dX11_partsThrough_54 ?_
          refine lv_iload_n X.1 X.2.1 dX11_partsThrough_57 rfl (lv_at hl 2 rfl) ?_
          refine r_ei I (r_runV X I pk_X6_houseAt (c6_houseAt l G _ _ _) lm_X11_336 (by decide) (cl_6 rfl) rfl rfl rfl hl.1 rfl (Nat.le_of_ble_eq_true rfl) dX11_partsThrough_58 (hr_le (by omega) (by decide)) ⟨Nat.le_refl 0, Nat.le_refl 0⟩) (fun H locs I => ?_)
          refine r_ei I (r_runV X I pk_X8_distance (c8_distance l G (k := 10) ⟨by decide, rfl, rfl, rfl⟩ _ _ _ _) lm_X11_206 (by decide) (cl_8 rfl) rfl rfl rfl hl.1 rfl (Nat.le_of_ble_eq_true rfl) dX11_partsThrough_61 (hr_le (by omega) (by decide)) ⟨Nat.le_refl 0, Nat.le_refl 0⟩) (fun H locs I => ?_)
          refine lv_istore (lv' := [(8, .int _), (7, .int _), (0, .ref _), (1, .int _), (2, .int _), (3, .int _), (4, .int _), (5, .long _)]) X.1 X.2.1 dX11_partsThrough_64 hl (by decide) rfl (fun ls hl => ?_)
          refine lv_lload X.1 X.2.1 dX11_partsThrough_66 (lv_at hl 7 rfl) ?_
          refine lv_iload_n X.1 X.2.1 dX11_partsThrough_68 rfl (lv_at hl 5 rfl) ?_
          refine lv_i2l X.1 X.2.1 dX11_partsThrough_69 rfl ?_
          refine lv_lmul X.1 X.2.1 dX11_partsThrough_70 ?_
          refine lv_ldc2 X.1 X.2.1 (v := 100) X.2.2.2.2.1 (X.2.2.2.1 _ lq_X11_444) dX11_partsThrough_71 ?_
          refine lv_ldiv X.1 X.2.1 dX11_partsThrough_74 (by decide) ?_
          refine lv_lstore (lv' := [(9, .long _), (8, .int _), (7, .int _), (0, .ref _), (1, .int _), (2, .int _), (3, .int _), (4, .int _), (5, .long _)]) X.1 X.2.1 dX11_partsThrough_75 hl (by decide) rfl (fun ls hl => ?_)
          refine lv_aload_n X.1 X.2.1 dX11_partsThrough_77 rfl (lv_at hl 3 rfl) ?_
          refine lv_iload_n X.1 X.2.1 dX11_partsThrough_78 rfl (lv_at hl 4 rfl) ?_
          refine lv_iload_n X.1 X.2.1 dX11_partsThrough_79 rfl (lv_at hl 5 rfl) ?_
          refine lv_iload_n X.1 X.2.1 dX11_partsThrough_80 rfl (lv_at hl 6 rfl) ?_
          refine lv_iload X.1 X.2.1 dX11_partsThrough_81 (lv_at hl 7 rfl) ?_
          refine lv_iload X.1 X.2.1 dX11_partsThrough_83 (lv_at hl 1 rfl) ?_
          refine lv_iadd X.1 X.2.1 dX11_partsThrough_85 ?_
          refine lv_iload X.1 X.2.1 dX11_partsThrough_86 (lv_at hl 1 rfl) ?_
          refine lv_iconst (v := 2) X.1 X.2.1 dX11_partsThrough_88 (by decide) ?_
          refine lv_idiv X.1 X.2.1 dX11_partsThrough_89 (by decide) ?_
          refine lv_iadd X.1 X.2.1 dX11_partsThrough_90 ?_
          refine lv_lload X.1 X.2.1 dX11_partsThrough_91 (lv_at hl 0 rfl) ?_
          refine r_el I (r_runV X I pk_X11_partsBehind (hB _ _ _ _ _ _ _ (Nat.lt_of_lt_of_le (up_dec c_2) (Nat.le_of_lt_succ hx))) lm_X11_446 (by decide) (cl_11 rfl) rfl rfl rfl hl.1 rfl (Nat.le_of_ble_eq_true rfl) dX11_partsThrough_93 (hr_le (by omega) (by decide)) ⟨Nat.le_refl 0, Nat.le_refl 0⟩) (fun H locs I => ?_)
          refine lv_aload_n X.1 X.2.1 dX11_partsThrough_96 rfl (lv_at hl 3 rfl) ?_
          refine lv_iload_n X.1 X.2.1 dX11_partsThrough_97 rfl (lv_at hl 4 rfl) ?_
          refine lv_iload_n X.1 X.2.1 dX11_partsThrough_98 rfl (lv_at hl 5 rfl) ?_
          refine lv_iload_n X.1 X.2.1 dX11_partsThrough_99 rfl (lv_at hl 6 rfl) ?_
          refine lv_iload X.1 X.2.1 dX11_partsThrough_100 (lv_at hl 7 rfl) ?_
          refine lv_iload X.1 X.2.1 dX11_partsThrough_102 (lv_at hl 1 rfl) ?_
          refine lv_iadd X.1 X.2.1 dX11_partsThrough_104 ?_
          refine lv_lload X.1 X.2.1 dX11_partsThrough_105 (lv_at hl 8 rfl) ?_
          refine lv_lload X.1 X.2.1 dX11_partsThrough_107 (lv_at hl 0 rfl) ?_
          refine lv_lsub X.1 X.2.1 dX11_partsThrough_109 ?_
          refine r_el I (r_runV X I pk_X11_partsBehind (hB _ _ _ _ _ _ _ (Nat.lt_of_lt_of_le (up_dec c_2) (Nat.le_of_lt_succ hx))) lm_X11_446 (by decide) (cl_11 rfl) rfl rfl rfl hl.1 rfl (Nat.le_of_ble_eq_true rfl) dX11_partsThrough_110 (hr_le (by omega) (by decide)) ⟨Nat.le_refl 0, Nat.le_refl 0⟩) (fun H locs I => ?_)
          refine lv_ladd X.1 X.2.1 dX11_partsThrough_113 ?_
          have h9 := hE.trans ((if_neg c_1).trans ((if_neg c_2).trans ((if_neg c_3).trans ((if_pos c_4).trans rfl))))
          exact r_lret X I (e_l (congrArg Prod.fst h9).symm (congrArg Prod.snd h9).symm rfl) dX11_partsThrough_114
      · skip
        refine lv_lload X.1 X.2.1 dX11_partsThrough_18 (lv_at hl 5 rfl) ?_
        have h9 := hE.trans ((if_neg c_1).trans ((if_neg c_2).trans ((if_pos c_3).trans rfl)))
        exact r_lret X I (e_l (congrArg Prod.fst h9).symm (congrArg Prod.snd h9).symm rfl) dX11_partsThrough_20
def fPartsD : Nat → SI → Int32 → Int32 → Int32 → Int32 → Int64 → Int64 × SI
  | 0 => fun σ _ _ _ _ _ => (0, σ)
  | D + 1 => fun σ x1 x2 x3 x4 x5 => f11_partsThrough (f11_partsBehind (fPartsD D)) σ x1 x2 x3 x4 x5
theorem w_fPartsD : ∀ (D : Nat) (σ : SI) (x1 x2 x3 x4 : Int32) (x5 : Int64) (b : Nat), b ≠ 13 → b ≠ 15 → (fPartsD D σ x1 x2 x3 x4 x5).2 b = σ b
  | 0, _, _, _, _, _, _, _, _, _ => rfl
  | D + 1, σ, x1, x2, x3, x4, x5, b, h0, h1 => w_f11_partsThrough (fun σ x1 x2 x3 x4 x5 b h0 h1 => w_f11_partsBehind (fun σ x1 x2 x3 x4 x5 b h0 h1 => w_fPartsD D σ x1 x2 x3 x4 x5 b h0 h1) σ x1 x2 x3 x4 x5 b h0 h1) σ x1 x2 x3 x4 x5 b h0 h1
theorem cPartsD (l : Launch) (G : GT) : ∀ (D : Nat) (σ : SI) (τ : SL) (x1 x2 x3 x4 : Int32) (x5 : Int64), (Int32.toInt 7 - Int32.toInt x1).toNat < D → Mc l yX11_partsThrough cX11_partsThrough 11 (some .long) (20 + 2 * D) G [.ref (G.2.1 0), .int x1, .int x2, .int x3, .int x4, .long x5] σ τ (Ql G (El (fPartsD D σ x1 x2 x3 x4 x5).1 (fPartsD D σ x1 x2 x3 x4 x5).2 τ))
  | 0, _, _, _, _, _, _, _, h => absurd h (Nat.not_lt_zero _)
  | D + 1, σ, τ, x1, x2, x3, x4, x5, h => c11_partsThrough l G (fun σ τ x1 x2 x3 x4 x5 h => c11_partsBehind l G (fun σ τ x1 x2 x3 x4 x5 h => cPartsD l G D σ τ x1 x2 x3 x4 x5 h) σ τ x1 x2 x3 x4 x5 h) σ τ x1 x2 x3 x4 x5 h
def f11_parts (σ : SI) (x1 x2 x3 x4 : Int32) (x5 : Int64) : Int64 × SI := fPartsD 8 σ x1 x2 x3 x4 x5
theorem c11_parts (l : Launch) (G : GT) (σ : SI) (τ : SL) (x1 x2 x3 x4 : Int32) (x5 : Int64) (hx0 : ¬ x1 < 0) : Mc l yX11_partsThrough cX11_partsThrough 11 (some .long) 36 G [.ref (G.2.1 0), .int x1, .int x2, .int x3, .int x4, .long x5] σ τ (Ql G (El (f11_parts σ x1 x2 x3 x4 x5).1 (f11_parts σ x1 x2 x3 x4 x5).2 τ)) := cPartsD l G 8 σ τ x1 x2 x3 x4 x5 (seven_lt hx0)
theorem w_f11_parts (σ : SI) (x1 x2 x3 x4 : Int32) (x5 : Int64) (b : Nat) (h0 : b ≠ 13) (h1 : b ≠ 15) : (f11_parts σ x1 x2 x3 x4 x5).2 b = σ b := w_fPartsD 8 σ x1 x2 x3 x4 x5 b h0 h1
def f6_digits_c4 (σ : SI) : Nat → Int32 → Int32 → Int32
  | 0, _, _ => 0
  | fu + 1, v1, v2 => if (σ 36 2) ≤ v2 then v1 else (f6_digits_c4 σ fu ((v1 * (10 : Int32)) + (f6_houseAt σ v2)) (v2 + 1))
def f6_digits (σ : SI) : Int32 := (f6_digits_c4 σ ((Int32.toInt (σ 36 2) - Int32.toInt (0 : Int32)).toNat + 1) (0 : Int32) (0 : Int32))
set_option maxHeartbeats 4000000 in
set_option maxRecDepth 100000 in
theorem c6_digits_c4 {l : Launch} {p : Program} {e : Env} {s : State} {m : MethodId} {args : Array Value} {below : List Frame} {meth : Method} {c : Code} {G : GT} (X : CX p s m args meth c cX6_digits RX6 3 (some .int) G) {E : Int32} (σ : SI) (τ : SL) : ∀ (fu : Nat) (v1 : Int32) (v2 : Int32) (H : Heap) (locs : List Loc) (ls : Array Slot), IX G s H locs σ τ → lv_has ls 3 [(0, .ref (G.2.1 36)), (1, .int v1), (2, .int v2)] → (Int32.toInt (σ 36 2) - Int32.toInt v2).toNat < fu → E = (f6_digits_c4 σ fu v1 v2) → W p l e (rmN 2) s m args below meth c H locs 0 0 (MQ below ((Qi G (Ei E σ τ)) s.heap.size) args s 0 0 (AW G s.heap.size)) (F0 m 4 ls []) := by
  intro fu
  induction fu with
  | zero =>
    intro v1 v2 H locs ls I hl  hm hE
    exact absurd hm (Nat.not_lt_zero _)
  | succ fu ih =>
    intro v1 v2 H locs ls I hl  hm hE
    refine lv_iload_n X.1 X.2.1 dX6_digits_4 rfl (lv_at hl 2 rfl) ?_
    refine lv_aload_n X.1 X.2.1 dX6_digits_5 rfl (lv_at hl 0 rfl) ?_
    refine g6_2 X I (k := 36) (by decide) rfl lf_X6_18 dX6_digits_6 ?_
    refine lv_icmp_ge (tgt := 29) X.1 X.2.1 dX6_digits_9 (by decide) (fun c_1 => ?_) (fun c_1 => ?_)
    · skip
      refine lv_iload_n X.1 X.2.1 dX6_digits_29 rfl (lv_at hl 1 rfl) ?_
      have h9 := hE.trans ((if_pos c_1).trans rfl)
      exact r_iret X I (e_i (h9).symm rfl rfl) dX6_digits_30
    · skip
      refine lv_iload_n X.1 X.2.1 dX6_digits_12 rfl (lv_at hl 1 rfl) ?_
      refine lv_bipush (v := 10) X.1 X.2.1 dX6_digits_13 (by decide) ?_
      refine lv_imul X.1 X.2.1 dX6_digits_15 ?_
      refine lv_aload_n X.1 X.2.1 dX6_digits_16 rfl (lv_at hl 0 rfl) ?_
      refine lv_iload_n X.1 X.2.1 dX6_digits_17 rfl (lv_at hl 2 rfl) ?_
      refine r_ei I (r_runV X I pk_X6_houseAt (c6_houseAt l G _ _ _) lm_X6_30 (by decide) (cl_6 rfl) rfl rfl rfl hl.1 rfl (Nat.le_of_ble_eq_true rfl) dX6_digits_18 ⟨Nat.le_of_ble_eq_true rfl, Nat.le_of_ble_eq_true rfl⟩ ⟨Nat.le_refl 0, Nat.le_refl 0⟩) (fun H locs I => ?_)
      refine lv_iadd X.1 X.2.1 dX6_digits_21 ?_
      refine lv_istore_n (lv' := [(1, .int _), (0, .ref _), (2, .int _)]) X.1 X.2.1 dX6_digits_22 rfl hl (by decide) rfl (fun ls hl => ?_)
      refine lv_iinc (v := _ + 1) (lv' := [(2, .int _), (1, .int _), (0, .ref _)]) X.1 X.2.1 dX6_digits_23 hl (k := 2) rfl rfl (by decide) rfl (fun ls hl => ?_)
      refine lv_goto (tgt := 4) X.1 X.2.1 dX6_digits_26 (by decide) ?_
      exact ih _ _ _ _ _ I (lv_sub hl [2, 1, 0] rfl) (Nat.lt_of_lt_of_le (up_dec c_1) (Nat.le_of_lt_succ hm)) (hE.trans ((if_neg c_1).trans rfl))
set_option maxHeartbeats 4000000 in
set_option maxRecDepth 100000 in
theorem c6_digits (l : Launch) (G : GT) (σ : SI) (τ : SL) : Mc l yX6_digits cX6_digits 3 (some .int) 2 G [.ref (G.2.1 36)] σ τ (Qi G (Ei (f6_digits σ) σ τ)) := by
  refine m_start (by decide +kernel) (Nat.le_of_ble_eq_true rfl) rfl (fun p e s m args below meth c ls X I hl => ?_)
  have hl : lv_has ls 3 [(0, .ref (G.2.1 36))] := hl
  obtain ⟨E, hE⟩ : ∃ E, E = (f6_digits σ) := ⟨_, rfl⟩
  rw [← hE]
  refine lv_iconst (v := 0) X.1 X.2.1 dX6_digits_0 (by decide) ?_
  refine lv_istore_n (lv' := [(1, .int _), (0, .ref _)]) X.1 X.2.1 dX6_digits_1 rfl hl (by decide) rfl (fun ls hl => ?_)
  refine lv_iconst (v := 0) X.1 X.2.1 dX6_digits_2 (by decide) ?_
  refine lv_istore_n (lv' := [(2, .int _), (1, .int _), (0, .ref _)]) X.1 X.2.1 dX6_digits_3 rfl hl (by decide) rfl (fun ls hl => ?_)
  exact c6_digits_c4 X _ _  _ _ _ _ _ _ I (lv_sub hl [2, 1, 0] rfl) (Nat.lt_succ_self _) (hE.trans (rfl))
def f7_size (σ : SI) : Int32 := (σ 1 1)
set_option maxHeartbeats 4000000 in
set_option maxRecDepth 100000 in
theorem c7_size (l : Launch) (G : GT) (σ : SI) (τ : SL) : Mc l yX7_size cX7_size 1 (some .int) 0 G [.ref (G.2.1 1)] σ τ (Qi G (Ei (f7_size σ) σ τ)) := by
  refine m_start (by decide +kernel) (Nat.le_of_ble_eq_true rfl) rfl (fun p e s m args below meth c ls X I hl => ?_)
  have hl : lv_has ls 1 [(0, .ref (G.2.1 1))] := hl
  obtain ⟨E, hE⟩ : ∃ E, E = (f7_size σ) := ⟨_, rfl⟩
  rw [← hE]
  refine lv_aload_n X.1 X.2.1 dX7_size_0 rfl (lv_at hl 0 rfl) ?_
  refine g7_1 X I (k := 1) (by decide) rfl lf_X7_19 dX7_size_1 ?_
  have h9 := hE
  exact r_iret X I (e_i (h9).symm rfl rfl) dX7_size_4
def f7_append_c3 (x1 : Int32) : Nat → Int32 → SI → SI
  | 0, _, σ => σ
  | fu + 1, v2, σ => if v2 < (0 : Int32) then σ else (if (((Int32.toUInt32 x1 >>> (Int32.toUInt32 v2 &&& Int32.toUInt32 31)).toInt32) &&& (255 : Int32)) = (0 : Int32) then (f7_append_c3 x1 fu (v2 + (-8)) σ) else (if (σ 1 1) < (0 : Int32) then (f7_append_c3 x1 fu (v2 + (-8)) σ) else (if (240 : Int32) ≤ (σ 1 1) then (f7_append_c3 x1 fu (v2 + (-8)) σ) else (let s0 := sp σ 2 (Int32.toNatClampNeg (σ 1 1)) (((Int32.toUInt32 x1 >>> (Int32.toUInt32 v2 &&& Int32.toUInt32 31)).toInt32) &&& (255 : Int32)); let s1 := sp s0 1 1 ((σ 1 1) + (1 : Int32)); (f7_append_c3 x1 fu (v2 + (-8)) s1)))))
def f7_append (σ : SI) (x1 : Int32) : SI := (f7_append_c3 x1 ((Int32.toInt (24 : Int32) + 8).toNat + 1) (24 : Int32) σ)
theorem w_f7_append_c3 (x1 : Int32) (a : Nat) (h0 : a ≠ 1) (h1 : a ≠ 2) : ∀ (fu : Nat) (v2 : Int32) (σ : SI), (f7_append_c3 x1 fu v2 σ) a = σ a := by
  intro fu
  induction fu with
  | zero => intros; rfl
  | succ fu ih =>
    intro v2 σ
    unfold f7_append_c3
    (repeat' split) <;> (first | rfl | (simp only [sp_n, su_n, ne_eq, not_false_eq_true, h0, h1, ih]; done) | (simp [sp_n, su_n, ne_eq, not_false_eq_true, h0, h1, ih]; done))
theorem w_f7_append (σ : SI) (x1 : Int32) (a : Nat) (h0 : a ≠ 1) (h1 : a ≠ 2) : (f7_append σ x1) a = σ a := by
  unfold f7_append
  (repeat' split) <;> (first | rfl | (simp only [sp_n, su_n, ne_eq, not_false_eq_true, h0, h1, w_f7_append_c3]; done) | (simp [sp_n, su_n, ne_eq, not_false_eq_true, h0, h1, w_f7_append_c3]; done))
set_option maxHeartbeats 4000000 in
set_option maxRecDepth 100000 in
theorem c7_append_c3 {l : Launch} {p : Program} {e : Env} {s : State} {m : MethodId} {args : Array Value} {below : List Frame} {meth : Method} {c : Code} {G : GT} (X : CX p s m args meth c cX7_append RX7 4 none G) {E : SI} (τ : SL) (x1 : Int32) : ∀ (fu : Nat) (v2 : Int32) (σ : SI) (H : Heap) (locs : List Loc) (ls : Array Slot), IX G s H locs σ τ → lv_has ls 4 [(0, .ref (G.2.1 1)), (1, .int x1), (2, .int v2)] → (Int32.toInt v2 + 8).toNat < fu → E = (f7_append_c3 x1 fu v2 σ) → W p l e (rmN 0) s m args below meth c H locs 0 0 (MQ below ((Qv G (Ev E τ)) s.heap.size) args s 0 0 (AW G s.heap.size)) (F0 m 3 ls []) := by
  intro fu
  induction fu with
  | zero =>
    intro v2 σ H locs ls I hl  hm hE
    exact absurd hm (Nat.not_lt_zero _)
  | succ fu ih =>
    intro v2 σ H locs ls I hl  hm hE
    refine lv_iload_n X.1 X.2.1 dX7_append_3 rfl (lv_at hl 2 rfl) ?_
    refine lv_if_lt (tgt := 64) X.1 X.2.1 dX7_append_4 (by decide) (fun c_1 => ?_) (fun c_1 => ?_)
    · skip
      have h9 := hE.trans ((if_pos c_1).trans rfl)
      exact r_vret X I (e_v (h9).symm rfl) dX7_append_64
    · skip
      refine lv_iload_n X.1 X.2.1 dX7_append_7 rfl (lv_at hl 1 rfl) ?_
      refine lv_iload_n X.1 X.2.1 dX7_append_8 rfl (lv_at hl 2 rfl) ?_
      refine lv_iushr X.1 X.2.1 dX7_append_9 rfl ?_
      refine lv_sipush (v := 255) X.1 X.2.1 dX7_append_10 (by decide) ?_
      refine lv_iand X.1 X.2.1 dX7_append_13 ?_
      refine lv_istore_n (lv' := [(3, .int _), (0, .ref _), (1, .int _), (2, .int _)]) X.1 X.2.1 dX7_append_14 rfl hl (by decide) rfl (fun ls hl => ?_)
      refine lv_iload_n X.1 X.2.1 dX7_append_15 rfl (lv_at hl 0 rfl) ?_
      refine lv_if_eq (tgt := 58) X.1 X.2.1 dX7_append_16 (by decide) (fun c_2 => ?_) (fun c_2 => ?_)
      · skip
        refine lv_iinc (v := _ + (-8)) (lv' := [(2, .int _), (3, .int _), (0, .ref _), (1, .int _)]) X.1 X.2.1 dX7_append_58 hl (k := 3) rfl rfl (by decide) rfl (fun ls hl => ?_)
        refine lv_goto (tgt := 3) X.1 X.2.1 dX7_append_61 (by decide) ?_
        exact ih _ _ _ _ _ I (lv_sub hl [2, 3, 0] rfl) (Nat.lt_of_lt_of_le (dn_dec8 c_1) (Nat.le_of_lt_succ hm)) (hE.trans ((if_neg c_1).trans ((if_pos c_2).trans rfl)))
      · skip
        refine lv_aload_n X.1 X.2.1 dX7_append_19 rfl (lv_at hl 1 rfl) ?_
        refine g7_1 X I (k := 1) (by decide) rfl lf_X7_19 dX7_append_20 ?_
        refine lv_if_lt (tgt := 58) X.1 X.2.1 dX7_append_23 (by decide) (fun c_3 => ?_) (fun c_3 => ?_)
        · skip
          refine lv_iinc (v := _ + (-8)) (lv' := [(2, .int _), (3, .int _), (0, .ref _), (1, .int _)]) X.1 X.2.1 dX7_append_58 hl (k := 3) rfl rfl (by decide) rfl (fun ls hl => ?_)
          refine lv_goto (tgt := 3) X.1 X.2.1 dX7_append_61 (by decide) ?_
          exact ih _ _ _ _ _ I (lv_sub hl [2, 3, 0] rfl) (Nat.lt_of_lt_of_le (dn_dec8 c_1) (Nat.le_of_lt_succ hm)) (hE.trans ((if_neg c_1).trans ((if_neg c_2).trans ((if_pos c_3).trans rfl))))
        · skip
          refine lv_aload_n X.1 X.2.1 dX7_append_26 rfl (lv_at hl 1 rfl) ?_
          refine g7_1 X I (k := 1) (by decide) rfl lf_X7_19 dX7_append_27 ?_
          refine lv_aload_n X.1 X.2.1 dX7_append_30 rfl (lv_at hl 1 rfl) ?_
          refine g7_0 X I (k := 1) (by decide) rfl lf_X7_9 dX7_append_31 ?_
          refine r_alen X I (k := 2) (n := 240) (by decide) rfl (v := 240) rfl dX7_append_34 ?_
          refine lv_icmp_ge (tgt := 58) X.1 X.2.1 dX7_append_35 (by decide) (fun c_4 => ?_) (fun c_4 => ?_)
          · skip
            refine lv_iinc (v := _ + (-8)) (lv' := [(2, .int _), (3, .int _), (0, .ref _), (1, .int _)]) X.1 X.2.1 dX7_append_58 hl (k := 3) rfl rfl (by decide) rfl (fun ls hl => ?_)
            refine lv_goto (tgt := 3) X.1 X.2.1 dX7_append_61 (by decide) ?_
            exact ih _ _ _ _ _ I (lv_sub hl [2, 3, 0] rfl) (Nat.lt_of_lt_of_le (dn_dec8 c_1) (Nat.le_of_lt_succ hm)) (hE.trans ((if_neg c_1).trans ((if_neg c_2).trans ((if_neg c_3).trans ((if_pos c_4).trans rfl)))))
          · skip
            refine lv_aload_n X.1 X.2.1 dX7_append_38 rfl (lv_at hl 1 rfl) ?_
            refine g7_0 X I (k := 1) (by decide) rfl lf_X7_9 dX7_append_39 ?_
            refine lv_aload_n X.1 X.2.1 dX7_append_42 rfl (lv_at hl 1 rfl) ?_
            refine g7_1 X I (k := 1) (by decide) rfl lf_X7_19 dX7_append_43 ?_
            refine lv_iload_n X.1 X.2.1 dX7_append_46 rfl (lv_at hl 0 rfl) ?_
            refine r_ast X I (k := 2) (n := 240) (by decide) rfl (vp_g (n := 240) (by decide) c_3 c_4) dX7_append_47 (fun H locs I => ?_)
            refine lv_aload_n X.1 X.2.1 dX7_append_48 rfl (lv_at hl 1 rfl) ?_
            refine lv_dup X.1 X.2.1 dX7_append_49 rfl ?_
            refine g7_1 X I (k := 1) (by decide) rfl lf_X7_19 dX7_append_50 ?_
            refine lv_iconst (v := 1) X.1 X.2.1 dX7_append_53 (by decide) ?_
            refine lv_iadd X.1 X.2.1 dX7_append_54 ?_
            refine p7_1 X I (k := 1) (by decide) rfl lf_X7_19 dX7_append_55 (fun H locs I => ?_)
            refine lv_iinc (v := _ + (-8)) (lv' := [(2, .int _), (3, .int _), (0, .ref _), (1, .int _)]) X.1 X.2.1 dX7_append_58 hl (k := 3) rfl rfl (by decide) rfl (fun ls hl => ?_)
            refine lv_goto (tgt := 3) X.1 X.2.1 dX7_append_61 (by decide) ?_
            exact ih _ _ _ _ _ I (lv_sub hl [2, 3, 0] rfl) (Nat.lt_of_lt_of_le (dn_dec8 c_1) (Nat.le_of_lt_succ hm)) (hE.trans ((if_neg c_1).trans ((if_neg c_2).trans ((if_neg c_3).trans ((if_neg c_4).trans rfl)))))
set_option maxHeartbeats 4000000 in
set_option maxRecDepth 100000 in
theorem c7_append (l : Launch) (G : GT) (σ : SI) (τ : SL) (x1 : Int32) : Mc l yX7_append cX7_append 4 none 0 G [.ref (G.2.1 1), .int x1] σ τ (Qv G (Ev (f7_append σ x1) τ)) := by
  refine m_start (by decide +kernel) (Nat.le_of_ble_eq_true rfl) rfl (fun p e s m args below meth c ls X I hl => ?_)
  have hl : lv_has ls 4 [(0, .ref (G.2.1 1)), (1, .int x1)] := hl
  obtain ⟨E, hE⟩ : ∃ E, E = (f7_append σ x1) := ⟨_, rfl⟩
  rw [← hE]
  refine lv_bipush (v := 24) X.1 X.2.1 dX7_append_0 (by decide) ?_
  refine lv_istore_n (lv' := [(2, .int _), (0, .ref _), (1, .int _)]) X.1 X.2.1 dX7_append_2 rfl hl (by decide) rfl (fun ls hl => ?_)
  exact c7_append_c3 X _ _ _ _ _ _ _ _ I (lv_sub hl [1, 2, 0] rfl) (Nat.lt_succ_self _) (hE.trans (rfl))
def f7_cut (σ : SI) (x1 : Int32) : SI := if x1 < (0 : Int32) then σ else (if (σ 1 1) < x1 then σ else (let s0 := sp σ 1 1 x1; s0))
theorem w_f7_cut (σ : SI) (x1 : Int32) (a : Nat) (h0 : a ≠ 1) : (f7_cut σ x1) a = σ a := by
  unfold f7_cut
  (repeat' split) <;> (first | rfl | (simp only [sp_n, su_n, ne_eq, not_false_eq_true, h0]; done) | (simp [sp_n, su_n, ne_eq, not_false_eq_true, h0]; done))
set_option maxHeartbeats 4000000 in
set_option maxRecDepth 100000 in
theorem c7_cut (l : Launch) (G : GT) (σ : SI) (τ : SL) (x1 : Int32) : Mc l yX7_cut cX7_cut 2 none 0 G [.ref (G.2.1 1), .int x1] σ τ (Qv G (Ev (f7_cut σ x1) τ)) := by
  refine m_start (by decide +kernel) (Nat.le_of_ble_eq_true rfl) rfl (fun p e s m args below meth c ls X I hl => ?_)
  have hl : lv_has ls 2 [(0, .ref (G.2.1 1)), (1, .int x1)] := hl
  obtain ⟨E, hE⟩ : ∃ E, E = (f7_cut σ x1) := ⟨_, rfl⟩
  rw [← hE]
  refine lv_iload_n X.1 X.2.1 dX7_cut_0 rfl (lv_at hl 1 rfl) ?_
  refine lv_if_lt (tgt := 17) X.1 X.2.1 dX7_cut_1 (by decide) (fun c_1 => ?_) (fun c_1 => ?_)
  · skip
    have h9 := hE.trans ((if_pos c_1).trans rfl)
    exact r_vret X I (e_v (h9).symm rfl) dX7_cut_17
  · skip
    refine lv_iload_n X.1 X.2.1 dX7_cut_4 rfl (lv_at hl 1 rfl) ?_
    refine lv_aload_n X.1 X.2.1 dX7_cut_5 rfl (lv_at hl 0 rfl) ?_
    refine g7_1 X I (k := 1) (by decide) rfl lf_X7_19 dX7_cut_6 ?_
    refine lv_icmp_gt (tgt := 17) X.1 X.2.1 dX7_cut_9 (by decide) (fun c_2 => ?_) (fun c_2 => ?_)
    · skip
      have h9 := hE.trans ((if_neg c_1).trans ((if_pos c_2).trans rfl))
      exact r_vret X I (e_v (h9).symm rfl) dX7_cut_17
    · skip
      refine lv_aload_n X.1 X.2.1 dX7_cut_12 rfl (lv_at hl 0 rfl) ?_
      refine lv_iload_n X.1 X.2.1 dX7_cut_13 rfl (lv_at hl 1 rfl) ?_
      refine p7_1 X I (k := 1) (by decide) rfl lf_X7_19 dX7_cut_14 (fun H locs I => ?_)
      have h9 := hE.trans ((if_neg c_1).trans ((if_neg c_2).trans rfl))
      exact r_vret X I (e_v (h9).symm rfl) dX7_cut_17
def f7_failsAtLastDigit (σ : SI) : Bool × SI := let s0 := sp σ 1 3 ((σ 1 2) - (1 : Int32)); (false, s0)
theorem w_f7_failsAtLastDigit (σ : SI) (a : Nat) (h0 : a ≠ 1) : (f7_failsAtLastDigit σ).2 a = σ a := by
  unfold f7_failsAtLastDigit
  (repeat' split) <;> (first | rfl | (simp only [sp_n, su_n, ne_eq, not_false_eq_true, h0]; done) | (simp [sp_n, su_n, ne_eq, not_false_eq_true, h0]; done))
set_option maxHeartbeats 4000000 in
set_option maxRecDepth 100000 in
theorem c7_failsAtLastDigit (l : Launch) (G : GT) (σ : SI) (τ : SL) : Mc l yX7_failsAtLastDigit cX7_failsAtLastDigit 1 (some .boolean) 0 G [.ref (G.2.1 1)] σ τ (Qi G (Ei (b2i (f7_failsAtLastDigit σ).1) (f7_failsAtLastDigit σ).2 τ)) := by
  refine m_start (by decide +kernel) (Nat.le_of_ble_eq_true rfl) rfl (fun p e s m args below meth c ls X I hl => ?_)
  have hl : lv_has ls 1 [(0, .ref (G.2.1 1))] := hl
  obtain ⟨E, hE⟩ : ∃ E, E = (f7_failsAtLastDigit σ) := ⟨_, rfl⟩
  rw [← hE]
  refine lv_aload_n X.1 X.2.1 dX7_failsAtLastDigit_0 rfl (lv_at hl 0 rfl) ?_
  refine lv_aload_n X.1 X.2.1 dX7_failsAtLastDigit_1 rfl (lv_at hl 0 rfl) ?_
  refine g7_2 X I (k := 1) (by decide) rfl lf_X7_22 dX7_failsAtLastDigit_2 ?_
  refine lv_iconst (v := 1) X.1 X.2.1 dX7_failsAtLastDigit_5 (by decide) ?_
  refine lv_isub X.1 X.2.1 dX7_failsAtLastDigit_6 ?_
  refine p7_3 X I (k := 1) (by decide) rfl lf_X7_15 dX7_failsAtLastDigit_7 (fun H locs I => ?_)
  refine lv_iconst (v := 0) X.1 X.2.1 dX7_failsAtLastDigit_10 (by decide) ?_
  have h9 := hE
  exact r_zret X I rfl (e_i (congrArg b2i (congrArg Prod.fst h9)).symm (congrArg Prod.snd h9).symm rfl) dX7_failsAtLastDigit_11
def f7_failsAtEnd (σ : SI) : Bool × SI := let s0 := sp σ 1 3 (σ 1 1); (false, s0)
theorem w_f7_failsAtEnd (σ : SI) (a : Nat) (h0 : a ≠ 1) : (f7_failsAtEnd σ).2 a = σ a := by
  unfold f7_failsAtEnd
  (repeat' split) <;> (first | rfl | (simp only [sp_n, su_n, ne_eq, not_false_eq_true, h0]; done) | (simp [sp_n, su_n, ne_eq, not_false_eq_true, h0]; done))
set_option maxHeartbeats 4000000 in
set_option maxRecDepth 100000 in
theorem c7_failsAtEnd (l : Launch) (G : GT) (σ : SI) (τ : SL) : Mc l yX7_failsAtEnd cX7_failsAtEnd 1 (some .boolean) 0 G [.ref (G.2.1 1)] σ τ (Qi G (Ei (b2i (f7_failsAtEnd σ).1) (f7_failsAtEnd σ).2 τ)) := by
  refine m_start (by decide +kernel) (Nat.le_of_ble_eq_true rfl) rfl (fun p e s m args below meth c ls X I hl => ?_)
  have hl : lv_has ls 1 [(0, .ref (G.2.1 1))] := hl
  obtain ⟨E, hE⟩ : ∃ E, E = (f7_failsAtEnd σ) := ⟨_, rfl⟩
  rw [← hE]
  refine lv_aload_n X.1 X.2.1 dX7_failsAtEnd_0 rfl (lv_at hl 0 rfl) ?_
  refine lv_aload_n X.1 X.2.1 dX7_failsAtEnd_1 rfl (lv_at hl 0 rfl) ?_
  refine g7_1 X I (k := 1) (by decide) rfl lf_X7_19 dX7_failsAtEnd_2 ?_
  refine p7_3 X I (k := 1) (by decide) rfl lf_X7_15 dX7_failsAtEnd_5 (fun H locs I => ?_)
  refine lv_iconst (v := 0) X.1 X.2.1 dX7_failsAtEnd_8 (by decide) ?_
  have h9 := hE
  exact r_zret X I rfl (e_i (congrArg b2i (congrArg Prod.fst h9)).symm (congrArg Prod.snd h9).symm rfl) dX7_failsAtEnd_9
def f7_wrongAt (σ : SI) : Int32 := (σ 1 3)
set_option maxHeartbeats 4000000 in
set_option maxRecDepth 100000 in
theorem c7_wrongAt (l : Launch) (G : GT) (σ : SI) (τ : SL) : Mc l yX7_wrongAt cX7_wrongAt 1 (some .int) 0 G [.ref (G.2.1 1)] σ τ (Qi G (Ei (f7_wrongAt σ) σ τ)) := by
  refine m_start (by decide +kernel) (Nat.le_of_ble_eq_true rfl) rfl (fun p e s m args below meth c ls X I hl => ?_)
  have hl : lv_has ls 1 [(0, .ref (G.2.1 1))] := hl
  obtain ⟨E, hE⟩ : ∃ E, E = (f7_wrongAt σ) := ⟨_, rfl⟩
  rw [← hE]
  refine lv_aload_n X.1 X.2.1 dX7_wrongAt_0 rfl (lv_at hl 0 rfl) ?_
  refine g7_3 X I (k := 1) (by decide) rfl lf_X7_15 dX7_wrongAt_1 ?_
  have h9 := hE
  exact r_iret X I (e_i (h9).symm rfl rfl) dX7_wrongAt_4
def f8_put (k : Nat) (σ : SI) (x1 : Int32) (x2 : Int32) : SI := let s0 := (f11_setCell (k + 1) 36 σ x1 x2); s0
theorem w_f8_put {k : Nat} (σ : SI) (x1 : Int32) (x2 : Int32) (a : Nat) (h0 : a ≠ (k + 1)) : (f8_put k σ x1 x2) a = σ a := by
  unfold f8_put
  (repeat' split) <;> (first | rfl | (simp only [sp_n, su_n, ne_eq, not_false_eq_true, h0, w_f11_setCell]; done) | (simp [sp_n, su_n, ne_eq, not_false_eq_true, h0, w_f11_setCell]; done))
set_option maxHeartbeats 4000000 in
set_option maxRecDepth 100000 in
theorem c8_put (l : Launch) (G : GT) {k : Nat} (hk : isTown k) (σ : SI) (τ : SL) (x1 : Int32) (x2 : Int32) : Mc l yX8_put cX8_put 3 none 1 G [.ref (G.2.1 k), .int x1, .int x2] σ τ (Qv G (Ev (f8_put k σ x1 x2) τ)) := by
  refine m_start (by decide +kernel) (Nat.le_of_ble_eq_true rfl) rfl (fun p e s m args below meth c ls X I hl => ?_)
  have hl : lv_has ls 3 [(0, .ref (G.2.1 k)), (1, .int x1), (2, .int x2)] := hl
  obtain ⟨E, hE⟩ : ∃ E, E = (f8_put k σ x1 x2) := ⟨_, rfl⟩
  rw [← hE]
  refine lv_aload_n X.1 X.2.1 dX8_put_0 rfl (lv_at hl 0 rfl) ?_
  refine g8_0 X I (k := k) (Nat.lt_of_le_of_lt (Nat.add_le_add_left (show 0 ≤ 2 by decide) k) hk.1) hk.2.1 lf_X8_9 dX8_put_1 ?_
  refine lv_iload_n X.1 X.2.1 dX8_put_4 rfl (lv_at hl 1 rfl) ?_
  refine lv_iload_n X.1 X.2.1 dX8_put_5 rfl (lv_at hl 2 rfl) ?_
  refine r_ev I (r_runN X I pk_X11_setCell (c11_setCell l G (k := (k + 1)) (n := 36) (Nat.lt_of_le_of_lt (Nat.add_le_add_left (show 1 ≤ 2 by decide) k) hk.1) hk.2.2.1 (by decide) _ _ _ _) (by decide +kernel) rfl hl.1 rfl (Nat.le_of_ble_eq_true rfl) dX8_put_6 ⟨Nat.le_of_ble_eq_true rfl, Nat.le_of_ble_eq_true rfl⟩ ⟨Nat.le_refl 0, Nat.le_refl 0⟩) (fun H locs I => ?_)
  have h9 := hE
  exact r_vret X I (e_v (h9).symm rfl) dX8_put_9
def f8_putUsual_c2 (k : Nat) (x1 : Int32) (x2 : Int32) : Nat → Int32 → SI → SI
  | 0, _, σ => σ
  | fu + 1, v3, σ => if (f11_cellS 3 x1) ≤ v3 then σ else (let s0 := (f8_put k σ (x2 + v3) (f11_cellS 8 ((f11_cellS 4 x1) + v3))); (f8_putUsual_c2 k x1 x2 fu (v3 + 1) s0))
def f8_putUsual (k : Nat) (σ : SI) (x1 : Int32) (x2 : Int32) : SI := (f8_putUsual_c2 k x1 x2 ((Int32.toInt (f11_cellS 3 x1) - Int32.toInt (0 : Int32)).toNat + 1) (0 : Int32) σ)
theorem w_f8_putUsual_c2 {k : Nat} (x1 : Int32) (x2 : Int32) (a : Nat) (h0 : a ≠ (k + 1)) : ∀ (fu : Nat) (v3 : Int32) (σ : SI), (f8_putUsual_c2 k x1 x2 fu v3 σ) a = σ a := by
  intro fu
  induction fu with
  | zero => intros; rfl
  | succ fu ih =>
    intro v3 σ
    unfold f8_putUsual_c2
    (repeat' split) <;> (first | rfl | (simp only [sp_n, su_n, ne_eq, not_false_eq_true, h0, w_f8_put, ih]; done) | (simp [sp_n, su_n, ne_eq, not_false_eq_true, h0, w_f8_put, ih]; done))
theorem w_f8_putUsual {k : Nat} (σ : SI) (x1 : Int32) (x2 : Int32) (a : Nat) (h0 : a ≠ (k + 1)) : (f8_putUsual k σ x1 x2) a = σ a := by
  unfold f8_putUsual
  (repeat' split) <;> (first | rfl | (simp only [sp_n, su_n, ne_eq, not_false_eq_true, h0, w_f8_put, w_f8_putUsual_c2]; done) | (simp [sp_n, su_n, ne_eq, not_false_eq_true, h0, w_f8_put, w_f8_putUsual_c2]; done))
set_option maxHeartbeats 4000000 in
set_option maxRecDepth 100000 in
theorem c8_putUsual_c2 {l : Launch} {p : Program} {e : Env} {s : State} {m : MethodId} {args : Array Value} {below : List Frame} {meth : Method} {c : Code} {G : GT} (X : CX p s m args meth c cX8_putUsual RX8 4 none G) {k : Nat} (hk : isTown k) {E : SI} (τ : SL) (x1 : Int32) (x2 : Int32) : ∀ (fu : Nat) (v3 : Int32) (σ : SI) (H : Heap) (locs : List Loc) (ls : Array Slot), IX G s H locs σ τ → lv_has ls 4 [(0, .ref (G.2.1 k)), (1, .int x1), (2, .int x2), (3, .int v3)] → (Int32.toInt (f11_cellS 3 x1) - Int32.toInt v3).toNat < fu → E = (f8_putUsual_c2 k x1 x2 fu v3 σ) → W p l e (rmN 2) s m args below meth c H locs 0 0 (MQ below ((Qv G (Ev E τ)) s.heap.size) args s 0 0 (AW G s.heap.size)) (F0 m 2 ls []) := by
  intro fu
  induction fu with
  | zero =>
    intro v3 σ H locs ls I hl  hm hE
    exact absurd hm (Nat.not_lt_zero _)
  | succ fu ih =>
    intro v3 σ H locs ls I hl  hm hE
    refine lv_iload_n X.1 X.2.1 dX8_putUsual_2 rfl (lv_at hl 3 rfl) ?_
    refine r_sget X I 3 (by decide) (index := 42) (by decide +kernel) dX8_putUsual_3 ?_
    refine lv_iload_n X.1 X.2.1 dX8_putUsual_6 rfl (lv_at hl 1 rfl) ?_
    refine r_ei I (r_runN X I pk_X11_cell (c11_cellS l G 3 (by decide) _ _ _) (by decide +kernel) rfl hl.1 rfl (Nat.le_of_ble_eq_true rfl) dX8_putUsual_7 ⟨Nat.le_of_ble_eq_true rfl, Nat.le_of_ble_eq_true rfl⟩ ⟨Nat.le_refl 0, Nat.le_refl 0⟩) (fun H locs I => ?_)
    refine lv_icmp_ge (tgt := 41) X.1 X.2.1 dX8_putUsual_10 (by decide) (fun c_1 => ?_) (fun c_1 => ?_)
    · skip
      have h9 := hE.trans ((if_pos c_1).trans rfl)
      exact r_vret X I (e_v (h9).symm rfl) dX8_putUsual_41
    · skip
      refine lv_aload_n X.1 X.2.1 dX8_putUsual_13 rfl (lv_at hl 0 rfl) ?_
      refine lv_iload_n X.1 X.2.1 dX8_putUsual_14 rfl (lv_at hl 2 rfl) ?_
      refine lv_iload_n X.1 X.2.1 dX8_putUsual_15 rfl (lv_at hl 3 rfl) ?_
      refine lv_iadd X.1 X.2.1 dX8_putUsual_16 ?_
      refine r_sget X I 8 (by decide) (index := 45) (by decide +kernel) dX8_putUsual_17 ?_
      refine r_sget X I 4 (by decide) (index := 48) (by decide +kernel) dX8_putUsual_20 ?_
      refine lv_iload_n X.1 X.2.1 dX8_putUsual_23 rfl (lv_at hl 1 rfl) ?_
      refine r_ei I (r_runN X I pk_X11_cell (c11_cellS l G 4 (by decide) _ _ _) (by decide +kernel) rfl hl.1 rfl (Nat.le_of_ble_eq_true rfl) dX8_putUsual_24 ⟨Nat.le_of_ble_eq_true rfl, Nat.le_of_ble_eq_true rfl⟩ ⟨Nat.le_refl 0, Nat.le_refl 0⟩) (fun H locs I => ?_)
      refine lv_iload_n X.1 X.2.1 dX8_putUsual_27 rfl (lv_at hl 3 rfl) ?_
      refine lv_iadd X.1 X.2.1 dX8_putUsual_28 ?_
      refine r_ei I (r_runN X I pk_X11_cell (c11_cellS l G 8 (by decide) _ _ _) (by decide +kernel) rfl hl.1 rfl (Nat.le_of_ble_eq_true rfl) dX8_putUsual_29 ⟨Nat.le_of_ble_eq_true rfl, Nat.le_of_ble_eq_true rfl⟩ ⟨Nat.le_refl 0, Nat.le_refl 0⟩) (fun H locs I => ?_)
      refine r_ev I (r_runV X I pk_X8_put (c8_put l G (k := k) hk _ _ _ _) lm_X8_51 (Nat.lt_of_le_of_lt (Nat.add_le_add_left (show 0 ≤ 2 by decide) k) hk.1) (cl_8 hk.2.1) rfl rfl rfl hl.1 rfl (Nat.le_of_ble_eq_true rfl) dX8_putUsual_32 ⟨Nat.le_of_ble_eq_true rfl, Nat.le_of_ble_eq_true rfl⟩ ⟨Nat.le_refl 0, Nat.le_refl 0⟩) (fun H locs I => ?_)
      refine lv_iinc (v := _ + 1) (lv' := [(3, .int _), (0, .ref _), (1, .int _), (2, .int _)]) X.1 X.2.1 dX8_putUsual_35 hl (k := 3) rfl rfl (by decide) rfl (fun ls hl => ?_)
      refine lv_goto (tgt := 2) X.1 X.2.1 dX8_putUsual_38 (by decide) ?_
      exact ih _ _ _ _ _ I (lv_sub hl [1, 2, 3, 0] rfl) (Nat.lt_of_lt_of_le (up_dec c_1) (Nat.le_of_lt_succ hm)) (hE.trans ((if_neg c_1).trans rfl))
set_option maxHeartbeats 4000000 in
set_option maxRecDepth 100000 in
theorem c8_putUsual (l : Launch) (G : GT) {k : Nat} (hk : isTown k) (σ : SI) (τ : SL) (x1 : Int32) (x2 : Int32) : Mc l yX8_putUsual cX8_putUsual 4 none 2 G [.ref (G.2.1 k), .int x1, .int x2] σ τ (Qv G (Ev (f8_putUsual k σ x1 x2) τ)) := by
  refine m_start (by decide +kernel) (Nat.le_of_ble_eq_true rfl) rfl (fun p e s m args below meth c ls X I hl => ?_)
  have hl : lv_has ls 4 [(0, .ref (G.2.1 k)), (1, .int x1), (2, .int x2)] := hl
  obtain ⟨E, hE⟩ : ∃ E, E = (f8_putUsual k σ x1 x2) := ⟨_, rfl⟩
  rw [← hE]
  refine lv_iconst (v := 0) X.1 X.2.1 dX8_putUsual_0 (by decide) ?_
  refine lv_istore_n (lv' := [(3, .int _), (0, .ref _), (1, .int _), (2, .int _)]) X.1 X.2.1 dX8_putUsual_1 rfl hl (by decide) rfl (fun ls hl => ?_)
  exact c8_putUsual_c2 X hk _ _ _ _ _ _ _ _ _ I (lv_sub hl [1, 2, 3, 0] rfl) (Nat.lt_succ_self _) (hE.trans (rfl))
def f8_clear_c2 (k : Nat) : Nat → Int32 → SI → SI
  | 0, _, σ => σ
  | fu + 1, v1, σ => if (3 : Int32) ≤ v1 then (let s0 := (f8_putUsual k σ (0 : Int32) (0 : Int32)); s0) else (let s1 := (f11_setCell (k + 2) 3 σ v1 (0 : Int32)); (f8_clear_c2 k fu (v1 + 1) s1))
def f8_clear (k : Nat) (σ : SI) : SI := (f8_clear_c2 k ((Int32.toInt (3 : Int32) - Int32.toInt (0 : Int32)).toNat + 1) (0 : Int32) σ)
theorem w_f8_clear_c2 {k : Nat} (a : Nat) (h0 : a ≠ (k + 1)) (h1 : a ≠ (k + 2)) : ∀ (fu : Nat) (v1 : Int32) (σ : SI), (f8_clear_c2 k fu v1 σ) a = σ a := by
  intro fu
  induction fu with
  | zero => intros; rfl
  | succ fu ih =>
    intro v1 σ
    unfold f8_clear_c2
    (repeat' split) <;> (first | rfl | (simp only [sp_n, su_n, ne_eq, not_false_eq_true, h0, h1, w_f11_setCell, w_f8_putUsual, ih]; done) | (simp [sp_n, su_n, ne_eq, not_false_eq_true, h0, h1, w_f11_setCell, w_f8_putUsual, ih]; done))
theorem w_f8_clear {k : Nat} (σ : SI) (a : Nat) (h0 : a ≠ (k + 1)) (h1 : a ≠ (k + 2)) : (f8_clear k σ) a = σ a := by
  unfold f8_clear
  (repeat' split) <;> (first | rfl | (simp only [sp_n, su_n, ne_eq, not_false_eq_true, h0, h1, w_f11_setCell, w_f8_putUsual, w_f8_clear_c2]; done) | (simp [sp_n, su_n, ne_eq, not_false_eq_true, h0, h1, w_f11_setCell, w_f8_putUsual, w_f8_clear_c2]; done))
set_option maxHeartbeats 4000000 in
set_option maxRecDepth 100000 in
theorem c8_clear_c2 {l : Launch} {p : Program} {e : Env} {s : State} {m : MethodId} {args : Array Value} {below : List Frame} {meth : Method} {c : Code} {G : GT} (X : CX p s m args meth c cX8_clear RX8 2 none G) {k : Nat} (hk : isTown k) {E : SI} (τ : SL) : ∀ (fu : Nat) (v1 : Int32) (σ : SI) (H : Heap) (locs : List Loc) (ls : Array Slot), IX G s H locs σ τ → lv_has ls 2 [(0, .ref (G.2.1 k)), (1, .int v1)] → (Int32.toInt (3 : Int32) - Int32.toInt v1).toNat < fu → E = (f8_clear_c2 k fu v1 σ) → W p l e (rmN 3) s m args below meth c H locs 0 0 (MQ below ((Qv G (Ev E τ)) s.heap.size) args s 0 0 (AW G s.heap.size)) (F0 m 2 ls []) := by
  intro fu
  induction fu with
  | zero =>
    intro v1 σ H locs ls I hl  hm hE
    exact absurd hm (Nat.not_lt_zero _)
  | succ fu ih =>
    intro v1 σ H locs ls I hl  hm hE
    refine lv_iload_n X.1 X.2.1 dX8_clear_2 rfl (lv_at hl 1 rfl) ?_
    refine lv_iconst (v := 3) X.1 X.2.1 dX8_clear_3 (by decide) ?_
    refine lv_icmp_ge (tgt := 22) X.1 X.2.1 dX8_clear_4 (by decide) (fun c_1 => ?_) (fun c_1 => ?_)
    · skip
      refine lv_aload_n X.1 X.2.1 dX8_clear_22 rfl (lv_at hl 0 rfl) ?_
      refine lv_iconst (v := 0) X.1 X.2.1 dX8_clear_23 (by decide) ?_
      refine lv_iconst (v := 0) X.1 X.2.1 dX8_clear_24 (by decide) ?_
      refine r_ev I (r_runV X I pk_X8_putUsual (c8_putUsual l G (k := k) hk _ _ _ _) lm_X8_22 (Nat.lt_of_le_of_lt (Nat.add_le_add_left (show 0 ≤ 2 by decide) k) hk.1) (cl_8 hk.2.1) rfl rfl rfl hl.1 rfl (Nat.le_of_ble_eq_true rfl) dX8_clear_25 ⟨Nat.le_of_ble_eq_true rfl, Nat.le_of_ble_eq_true rfl⟩ ⟨Nat.le_refl 0, Nat.le_refl 0⟩) (fun H locs I => ?_)
      have h9 := hE.trans ((if_pos c_1).trans rfl)
      exact r_vret X I (e_v (h9).symm rfl) dX8_clear_28
    · skip
      refine lv_aload_n X.1 X.2.1 dX8_clear_7 rfl (lv_at hl 0 rfl) ?_
      refine g8_1 X I (k := k) (Nat.lt_of_le_of_lt (Nat.add_le_add_left (show 0 ≤ 2 by decide) k) hk.1) hk.2.1 lf_X8_15 dX8_clear_8 ?_
      refine lv_iload_n X.1 X.2.1 dX8_clear_11 rfl (lv_at hl 1 rfl) ?_
      refine lv_iconst (v := 0) X.1 X.2.1 dX8_clear_12 (by decide) ?_
      refine r_ev I (r_runN X I pk_X11_setCell (c11_setCell l G (k := (k + 2)) (n := 3) (Nat.lt_of_le_of_lt (Nat.add_le_add_left (show 2 ≤ 2 by decide) k) hk.1) hk.2.2.2 (by decide) _ _ _ _) (by decide +kernel) rfl hl.1 rfl (Nat.le_of_ble_eq_true rfl) dX8_clear_13 ⟨Nat.le_of_ble_eq_true rfl, Nat.le_of_ble_eq_true rfl⟩ ⟨Nat.le_refl 0, Nat.le_refl 0⟩) (fun H locs I => ?_)
      refine lv_iinc (v := _ + 1) (lv' := [(1, .int _), (0, .ref _)]) X.1 X.2.1 dX8_clear_16 hl (k := 1) rfl rfl (by decide) rfl (fun ls hl => ?_)
      refine lv_goto (tgt := 2) X.1 X.2.1 dX8_clear_19 (by decide) ?_
      exact ih _ _ _ _ _ I (lv_sub hl [1, 0] rfl) (Nat.lt_of_lt_of_le (up_dec c_1) (Nat.le_of_lt_succ hm)) (hE.trans ((if_neg c_1).trans rfl))
set_option maxHeartbeats 4000000 in
set_option maxRecDepth 100000 in
theorem c8_clear (l : Launch) (G : GT) {k : Nat} (hk : isTown k) (σ : SI) (τ : SL) : Mc l yX8_clear cX8_clear 2 none 3 G [.ref (G.2.1 k)] σ τ (Qv G (Ev (f8_clear k σ) τ)) := by
  refine m_start (by decide +kernel) (Nat.le_of_ble_eq_true rfl) rfl (fun p e s m args below meth c ls X I hl => ?_)
  have hl : lv_has ls 2 [(0, .ref (G.2.1 k))] := hl
  obtain ⟨E, hE⟩ : ∃ E, E = (f8_clear k σ) := ⟨_, rfl⟩
  rw [← hE]
  refine lv_iconst (v := 0) X.1 X.2.1 dX8_clear_0 (by decide) ?_
  refine lv_istore_n (lv' := [(1, .int _), (0, .ref _)]) X.1 X.2.1 dX8_clear_1 rfl hl (by decide) rfl (fun ls hl => ?_)
  exact c8_clear_c2 X hk _  _ _ _ _ _ _ I (lv_sub hl [1, 0] rfl) (Nat.lt_succ_self _) (hE.trans (rfl))
