def f11_nearest_c4 (σ : SI) : Nat → Int32 → Int32 → Int32
  | 0, _, _ => 0
  | fu + 1, v1, v2 => if (f8_houses 10 σ) ≤ v2 then v1 else (if v2 = (σ 24 4) then (f11_nearest_c4 σ fu v1 (v2 + 1)) else (if v1 = (-1 : Int32) then (f11_nearest_c4 σ fu v2 (v2 + 1)) else (if (f11_stepsTo σ v1) ≤ (f11_stepsTo σ v2) then (f11_nearest_c4 σ fu v1 (v2 + 1)) else (f11_nearest_c4 σ fu v2 (v2 + 1)))))
def f11_nearest (σ : SI) : Int32 := (f11_nearest_c4 σ ((Int32.toInt (f8_houses 10 σ) - Int32.toInt (0 : Int32)).toNat + 1) (-1 : Int32) (0 : Int32))
set_option maxHeartbeats 4000000 in
set_option maxRecDepth 100000 in
theorem c11_nearest_c4 {l : Launch} {p : Program} {e : Env} {s : State} {m : MethodId} {args : Array Value} {below : List Frame} {meth : Method} {c : Code} {G : GT} (X : CX p s m args meth c cX11_nearest RX11 3 (some .int) G) {E : Int32} (σ : SI) (τ : SL) : ∀ (fu : Nat) (v1 : Int32) (v2 : Int32) (H : Heap) (locs : List Loc) (ls : Array Slot), IX G s H locs σ τ → lv_has ls 3 [(0, .ref (G.2.1 0)), (1, .int v1), (2, .int v2)] → (Int32.toInt (f8_houses 10 σ) - Int32.toInt v2).toNat < fu → E = (f11_nearest_c4 σ fu v1 v2) → W p l e (rmN 7) s m args below meth c H locs 0 0 (MQ below ((Qi G (Ei E σ τ)) s.heap.size) args s 0 0 (AW G s.heap.size)) (F0 m 4 ls []) := by
  intro fu
  induction fu with
  | zero =>
    intro v1 v2 H locs ls I hl  hm hE
    exact absurd hm (Nat.not_lt_zero _)
  | succ fu ih =>
    intro v1 v2 H locs ls I hl  hm hE
    refine lv_iload_n X.1 X.2.1 dX11_nearest_4 rfl (lv_at hl 2 rfl) ?_
    refine lv_aload_n X.1 X.2.1 dX11_nearest_5 rfl (lv_at hl 0 rfl) ?_
    refine g11_3 X I (k := 0) (by decide) rfl lf_X11_35 dX11_nearest_6 ?_
    refine r_ei I (r_runV X I pk_X8_houses (c8_houses l G (k := 10) ⟨by decide, rfl, rfl, rfl⟩ _ _) lm_X11_155 (by decide) (cl_8 rfl) rfl rfl rfl hl.1 rfl (Nat.le_of_ble_eq_true rfl) dX11_nearest_9 ⟨Nat.le_of_ble_eq_true rfl, Nat.le_of_ble_eq_true rfl⟩ ⟨Nat.le_refl 0, Nat.le_refl 0⟩) (fun H locs I => ?_)
    refine lv_icmp_ge (tgt := 52) X.1 X.2.1 dX11_nearest_12 (by decide) (fun c_1 => ?_) (fun c_1 => ?_)
    · skip
      refine lv_iload_n X.1 X.2.1 dX11_nearest_52 rfl (lv_at hl 1 rfl) ?_
      have h9 := hE.trans ((if_pos c_1).trans rfl)
      exact r_iret X I (e_i (h9).symm rfl rfl) dX11_nearest_53
    · skip
      refine lv_iload_n X.1 X.2.1 dX11_nearest_15 rfl (lv_at hl 2 rfl) ?_
      refine lv_aload_n X.1 X.2.1 dX11_nearest_16 rfl (lv_at hl 0 rfl) ?_
      refine g11_5 X I (k := 0) (by decide) rfl lf_X11_49 dX11_nearest_17 ?_
      refine g0_4 X I (k := 24) (by decide) rfl lf_X11_213 dX11_nearest_20 ?_
      refine lv_icmp_eq (tgt := 46) X.1 X.2.1 dX11_nearest_23 (by decide) (fun c_2 => ?_) (fun c_2 => ?_)
      · skip
        refine lv_iinc (v := _ + 1) (lv' := [(2, .int _), (0, .ref _), (1, .int _)]) X.1 X.2.1 dX11_nearest_46 hl (k := 2) rfl rfl (by decide) rfl (fun ls hl => ?_)
        refine lv_goto (tgt := 4) X.1 X.2.1 dX11_nearest_49 (by decide) ?_
        exact ih _ _ _ _ _ I (lv_sub hl [1, 2, 0] rfl) (Nat.lt_of_lt_of_le (up_dec c_1) (Nat.le_of_lt_succ hm)) (hE.trans ((if_neg c_1).trans ((if_pos c_2).trans rfl)))
      · skip
        refine lv_iload_n X.1 X.2.1 dX11_nearest_26 rfl (lv_at hl 1 rfl) ?_
        refine lv_iconst (v := (-1)) X.1 X.2.1 dX11_nearest_27 (by decide) ?_
        refine lv_icmp_eq (tgt := 44) X.1 X.2.1 dX11_nearest_28 (by decide) (fun c_3 => ?_) (fun c_3 => ?_)
        · skip
          refine lv_iload_n X.1 X.2.1 dX11_nearest_44 rfl (lv_at hl 2 rfl) ?_
          refine lv_istore_n (lv' := [(1, .int _), (0, .ref _), (2, .int _)]) X.1 X.2.1 dX11_nearest_45 rfl hl (by decide) rfl (fun ls hl => ?_)
          refine lv_iinc (v := _ + 1) (lv' := [(2, .int _), (1, .int _), (0, .ref _)]) X.1 X.2.1 dX11_nearest_46 hl (k := 2) rfl rfl (by decide) rfl (fun ls hl => ?_)
          refine lv_goto (tgt := 4) X.1 X.2.1 dX11_nearest_49 (by decide) ?_
          exact ih _ _ _ _ _ I (lv_sub hl [2, 1, 0] rfl) (Nat.lt_of_lt_of_le (up_dec c_1) (Nat.le_of_lt_succ hm)) (hE.trans ((if_neg c_1).trans ((if_neg c_2).trans ((if_pos c_3).trans rfl))))
        · skip
          refine lv_aload_n X.1 X.2.1 dX11_nearest_31 rfl (lv_at hl 0 rfl) ?_
          refine lv_iload_n X.1 X.2.1 dX11_nearest_32 rfl (lv_at hl 2 rfl) ?_
          refine r_ei I (r_runV X I pk_X11_stepsTo (c11_stepsTo l G _ _ _) lm_X11_203 (by decide) (cl_11 rfl) rfl rfl rfl hl.1 rfl (Nat.le_of_ble_eq_true rfl) dX11_nearest_33 ⟨Nat.le_of_ble_eq_true rfl, Nat.le_of_ble_eq_true rfl⟩ ⟨Nat.le_refl 0, Nat.le_refl 0⟩) (fun H locs I => ?_)
          refine lv_aload_n X.1 X.2.1 dX11_nearest_36 rfl (lv_at hl 0 rfl) ?_
          refine lv_iload_n X.1 X.2.1 dX11_nearest_37 rfl (lv_at hl 1 rfl) ?_
          refine r_ei I (r_runV X I pk_X11_stepsTo (c11_stepsTo l G _ _ _) lm_X11_203 (by decide) (cl_11 rfl) rfl rfl rfl hl.1 rfl (Nat.le_of_ble_eq_true rfl) dX11_nearest_38 ⟨Nat.le_of_ble_eq_true rfl, Nat.le_of_ble_eq_true rfl⟩ ⟨Nat.le_refl 0, Nat.le_refl 0⟩) (fun H locs I => ?_)
          refine lv_icmp_ge (tgt := 46) X.1 X.2.1 dX11_nearest_41 (by decide) (fun c_4 => ?_) (fun c_4 => ?_)
          · skip
            refine lv_iinc (v := _ + 1) (lv' := [(2, .int _), (0, .ref _), (1, .int _)]) X.1 X.2.1 dX11_nearest_46 hl (k := 2) rfl rfl (by decide) rfl (fun ls hl => ?_)
            refine lv_goto (tgt := 4) X.1 X.2.1 dX11_nearest_49 (by decide) ?_
            exact ih _ _ _ _ _ I (lv_sub hl [1, 2, 0] rfl) (Nat.lt_of_lt_of_le (up_dec c_1) (Nat.le_of_lt_succ hm)) (hE.trans ((if_neg c_1).trans ((if_neg c_2).trans ((if_neg c_3).trans ((if_pos c_4).trans rfl)))))
          · skip
            refine lv_iload_n X.1 X.2.1 dX11_nearest_44 rfl (lv_at hl 2 rfl) ?_
            refine lv_istore_n (lv' := [(1, .int _), (0, .ref _), (2, .int _)]) X.1 X.2.1 dX11_nearest_45 rfl hl (by decide) rfl (fun ls hl => ?_)
            refine lv_iinc (v := _ + 1) (lv' := [(2, .int _), (1, .int _), (0, .ref _)]) X.1 X.2.1 dX11_nearest_46 hl (k := 2) rfl rfl (by decide) rfl (fun ls hl => ?_)
            refine lv_goto (tgt := 4) X.1 X.2.1 dX11_nearest_49 (by decide) ?_
            exact ih _ _ _ _ _ I (lv_sub hl [2, 1, 0] rfl) (Nat.lt_of_lt_of_le (up_dec c_1) (Nat.le_of_lt_succ hm)) (hE.trans ((if_neg c_1).trans ((if_neg c_2).trans ((if_neg c_3).trans ((if_neg c_4).trans rfl)))))
set_option maxHeartbeats 4000000 in
set_option maxRecDepth 100000 in
theorem c11_nearest (l : Launch) (G : GT) (σ : SI) (τ : SL) : Mc l yX11_nearest cX11_nearest 3 (some .int) 7 G [.ref (G.2.1 0)] σ τ (Qi G (Ei (f11_nearest σ) σ τ)) := by
  refine m_start (by decide +kernel) (Nat.le_of_ble_eq_true rfl) rfl (fun p e s m args below meth c ls X I hl => ?_)
  have hl : lv_has ls 3 [(0, .ref (G.2.1 0))] := hl
  obtain ⟨E, hE⟩ : ∃ E, E = (f11_nearest σ) := ⟨_, rfl⟩
  rw [← hE]
  refine lv_iconst (v := (-1)) X.1 X.2.1 dX11_nearest_0 (by decide) ?_
  refine lv_istore_n (lv' := [(1, .int _), (0, .ref _)]) X.1 X.2.1 dX11_nearest_1 rfl hl (by decide) rfl (fun ls hl => ?_)
  refine lv_iconst (v := 0) X.1 X.2.1 dX11_nearest_2 (by decide) ?_
  refine lv_istore_n (lv' := [(2, .int _), (1, .int _), (0, .ref _)]) X.1 X.2.1 dX11_nearest_3 rfl hl (by decide) rfl (fun ls hl => ?_)
  exact c11_nearest_c4 X _ _  _ _ _ _ _ _ I (lv_sub hl [2, 1, 0] rfl) (Nat.lt_succ_self _) (hE.trans (rfl))
def f11_most (σ : SI) (x1 : Int32) : Int32 := if (f8_isTold 10 σ) = true then (if x1 = 0 then (f11_hardest σ) else (if x1 = 1 then (f11_nearest σ) else (if x1 = 2 then (f11_farthest σ) else (if x1 = 3 then (f11_content σ) else (if x1 = 4 then ((f8_timeThereIs 10 σ) - (σ 24 2)) else (if x1 = 5 then ((f8_strength 10 σ) - (σ 24 3)) else (if x1 = 6 then (σ 24 5) else (if x1 = 7 then (f8_distance 10 σ (σ 24 4) (-1 : Int32)) else (-1 : Int32))))))))) else (-1 : Int32)
set_option maxHeartbeats 4000000 in
set_option maxRecDepth 100000 in
theorem c11_most (l : Launch) (G : GT) (σ : SI) (τ : SL) (x1 : Int32) : Mc l yX11_most cX11_most 2 (some .int) 8 G [.ref (G.2.1 0), .int x1] σ τ (Qi G (Ei (f11_most σ x1) σ τ)) := by
  refine m_start (by decide +kernel) (Nat.le_of_ble_eq_true rfl) rfl (fun p e s m args below meth c ls X I hl => ?_)
  have hl : lv_has ls 2 [(0, .ref (G.2.1 0)), (1, .int x1)] := hl
  obtain ⟨E, hE⟩ : ∃ E, E = (f11_most σ x1) := ⟨_, rfl⟩
  rw [← hE]
  refine lv_aload_n X.1 X.2.1 dX11_most_0 rfl (lv_at hl 0 rfl) ?_
  refine g11_3 X I (k := 0) (by decide) rfl lf_X11_35 dX11_most_1 ?_
  refine r_ei I (r_runV X I pk_X8_isTold (c8_isTold l G (k := 10) ⟨by decide, rfl, rfl, rfl⟩ _ _) lm_X11_158 (by decide) (cl_8 rfl) rfl rfl rfl hl.1 rfl (Nat.le_of_ble_eq_true rfl) dX11_most_4 ⟨Nat.le_of_ble_eq_true rfl, Nat.le_of_ble_eq_true rfl⟩ ⟨Nat.le_refl 0, Nat.le_refl 0⟩) (fun H locs I => ?_)
  refine lv_if_ne (tgt := 12) X.1 X.2.1 dX11_most_7 (by decide) (fun c_1 => ?_) (fun c_1 => ?_)
  · skip
    refine lv_iload_n X.1 X.2.1 dX11_most_12 rfl (lv_at hl 1 rfl) ?_
    rcases Classical.em (x1 = 0) with c_2 | c_2
    · skip
      refine lv_tableIn (off := 47) (tgt := 60) X.1 X.2.1 dX11_most_13 (by rw [c_2]; decide) (by rw [c_2]; decide) (by rw [c_2]; decide) (by decide) ?_
      refine lv_aload_n X.1 X.2.1 dX11_most_60 rfl (lv_at hl 0 rfl) ?_
      refine r_ei I (r_runV X I pk_X11_hardest (c11_hardest l G _ _) lm_X11_452 (by decide) (cl_11 rfl) rfl rfl rfl hl.1 rfl (Nat.le_of_ble_eq_true rfl) dX11_most_61 ⟨Nat.le_of_ble_eq_true rfl, Nat.le_of_ble_eq_true rfl⟩ ⟨Nat.le_refl 0, Nat.le_refl 0⟩) (fun H locs I => ?_)
      have h9 := hE.trans ((if_pos (b2i_y c_1)).trans ((if_pos c_2).trans rfl))
      exact r_iret X I (e_i (h9).symm rfl rfl) dX11_most_64
    rcases Classical.em (x1 = 1) with c_3 | c_3
    · skip
      refine lv_tableIn (off := 52) (tgt := 65) X.1 X.2.1 dX11_most_13 (by rw [c_3]; decide) (by rw [c_3]; decide) (by rw [c_3]; decide) (by decide) ?_
      refine lv_aload_n X.1 X.2.1 dX11_most_65 rfl (lv_at hl 0 rfl) ?_
      refine r_ei I (r_runV X I pk_X11_nearest (c11_nearest l G _ _) lm_X11_455 (by decide) (cl_11 rfl) rfl rfl rfl hl.1 rfl (Nat.le_of_ble_eq_true rfl) dX11_most_66 ⟨Nat.le_of_ble_eq_true rfl, Nat.le_of_ble_eq_true rfl⟩ ⟨Nat.le_refl 0, Nat.le_refl 0⟩) (fun H locs I => ?_)
      have h9 := hE.trans ((if_pos (b2i_y c_1)).trans ((if_neg c_2).trans ((if_pos c_3).trans rfl)))
      exact r_iret X I (e_i (h9).symm rfl rfl) dX11_most_69
    rcases Classical.em (x1 = 2) with c_4 | c_4
    · skip
      refine lv_tableIn (off := 57) (tgt := 70) X.1 X.2.1 dX11_most_13 (by rw [c_4]; decide) (by rw [c_4]; decide) (by rw [c_4]; decide) (by decide) ?_
      refine lv_aload_n X.1 X.2.1 dX11_most_70 rfl (lv_at hl 0 rfl) ?_
      refine r_ei I (r_runV X I pk_X11_farthest (c11_farthest l G _ _) lm_X11_458 (by decide) (cl_11 rfl) rfl rfl rfl hl.1 rfl (Nat.le_of_ble_eq_true rfl) dX11_most_71 ⟨Nat.le_of_ble_eq_true rfl, Nat.le_of_ble_eq_true rfl⟩ ⟨Nat.le_refl 0, Nat.le_refl 0⟩) (fun H locs I => ?_)
      have h9 := hE.trans ((if_pos (b2i_y c_1)).trans ((if_neg c_2).trans ((if_neg c_3).trans ((if_pos c_4).trans rfl))))
      exact r_iret X I (e_i (h9).symm rfl rfl) dX11_most_74
    rcases Classical.em (x1 = 3) with c_5 | c_5
    · skip
      refine lv_tableIn (off := 62) (tgt := 75) X.1 X.2.1 dX11_most_13 (by rw [c_5]; decide) (by rw [c_5]; decide) (by rw [c_5]; decide) (by decide) ?_
      refine lv_aload_n X.1 X.2.1 dX11_most_75 rfl (lv_at hl 0 rfl) ?_
      refine r_ei I (r_runV X I pk_X11_content (c11_content l G _ _) lm_X11_461 (by decide) (cl_11 rfl) rfl rfl rfl hl.1 rfl (Nat.le_of_ble_eq_true rfl) dX11_most_76 ⟨Nat.le_of_ble_eq_true rfl, Nat.le_of_ble_eq_true rfl⟩ ⟨Nat.le_refl 0, Nat.le_refl 0⟩) (fun H locs I => ?_)
      have h9 := hE.trans ((if_pos (b2i_y c_1)).trans ((if_neg c_2).trans ((if_neg c_3).trans ((if_neg c_4).trans ((if_pos c_5).trans rfl)))))
      exact r_iret X I (e_i (h9).symm rfl rfl) dX11_most_79
    rcases Classical.em (x1 = 4) with c_6 | c_6
    · skip
      refine lv_tableIn (off := 67) (tgt := 80) X.1 X.2.1 dX11_most_13 (by rw [c_6]; decide) (by rw [c_6]; decide) (by rw [c_6]; decide) (by decide) ?_
      refine lv_aload_n X.1 X.2.1 dX11_most_80 rfl (lv_at hl 0 rfl) ?_
      refine g11_3 X I (k := 0) (by decide) rfl lf_X11_35 dX11_most_81 ?_
      refine r_ei I (r_runV X I pk_X8_timeThereIs (c8_timeThereIs l G (k := 10) ⟨by decide, rfl, rfl, rfl⟩ _ _) lm_X11_161 (by decide) (cl_8 rfl) rfl rfl rfl hl.1 rfl (Nat.le_of_ble_eq_true rfl) dX11_most_84 ⟨Nat.le_of_ble_eq_true rfl, Nat.le_of_ble_eq_true rfl⟩ ⟨Nat.le_refl 0, Nat.le_refl 0⟩) (fun H locs I => ?_)
      refine lv_aload_n X.1 X.2.1 dX11_most_87 rfl (lv_at hl 0 rfl) ?_
      refine g11_5 X I (k := 0) (by decide) rfl lf_X11_49 dX11_most_88 ?_
      refine g0_2 X I (k := 24) (by decide) rfl lf_X11_216 dX11_most_91 ?_
      refine lv_isub X.1 X.2.1 dX11_most_94 ?_
      have h9 := hE.trans ((if_pos (b2i_y c_1)).trans ((if_neg c_2).trans ((if_neg c_3).trans ((if_neg c_4).trans ((if_neg c_5).trans ((if_pos c_6).trans rfl))))))
      exact r_iret X I (e_i (h9).symm rfl rfl) dX11_most_95
    rcases Classical.em (x1 = 5) with c_7 | c_7
    · skip
      refine lv_tableIn (off := 83) (tgt := 96) X.1 X.2.1 dX11_most_13 (by rw [c_7]; decide) (by rw [c_7]; decide) (by rw [c_7]; decide) (by decide) ?_
      refine lv_aload_n X.1 X.2.1 dX11_most_96 rfl (lv_at hl 0 rfl) ?_
      refine g11_3 X I (k := 0) (by decide) rfl lf_X11_35 dX11_most_97 ?_
      refine r_ei I (r_runV X I pk_X8_strength (c8_strength l G (k := 10) ⟨by decide, rfl, rfl, rfl⟩ _ _) lm_X11_170 (by decide) (cl_8 rfl) rfl rfl rfl hl.1 rfl (Nat.le_of_ble_eq_true rfl) dX11_most_100 ⟨Nat.le_of_ble_eq_true rfl, Nat.le_of_ble_eq_true rfl⟩ ⟨Nat.le_refl 0, Nat.le_refl 0⟩) (fun H locs I => ?_)
      refine lv_aload_n X.1 X.2.1 dX11_most_103 rfl (lv_at hl 0 rfl) ?_
      refine g11_5 X I (k := 0) (by decide) rfl lf_X11_49 dX11_most_104 ?_
      refine g0_3 X I (k := 24) (by decide) rfl lf_X11_252 dX11_most_107 ?_
      refine lv_isub X.1 X.2.1 dX11_most_110 ?_
      have h9 := hE.trans ((if_pos (b2i_y c_1)).trans ((if_neg c_2).trans ((if_neg c_3).trans ((if_neg c_4).trans ((if_neg c_5).trans ((if_neg c_6).trans ((if_pos c_7).trans rfl)))))))
      exact r_iret X I (e_i (h9).symm rfl rfl) dX11_most_111
    rcases Classical.em (x1 = 6) with c_8 | c_8
    · skip
      refine lv_tableIn (off := 99) (tgt := 112) X.1 X.2.1 dX11_most_13 (by rw [c_8]; decide) (by rw [c_8]; decide) (by rw [c_8]; decide) (by decide) ?_
      refine lv_aload_n X.1 X.2.1 dX11_most_112 rfl (lv_at hl 0 rfl) ?_
      refine g11_5 X I (k := 0) (by decide) rfl lf_X11_49 dX11_most_113 ?_
      refine g0_5 X I (k := 24) (by decide) rfl lf_X11_257 dX11_most_116 ?_
      have h9 := hE.trans ((if_pos (b2i_y c_1)).trans ((if_neg c_2).trans ((if_neg c_3).trans ((if_neg c_4).trans ((if_neg c_5).trans ((if_neg c_6).trans ((if_neg c_7).trans ((if_pos c_8).trans rfl))))))))
      exact r_iret X I (e_i (h9).symm rfl rfl) dX11_most_119
    rcases Classical.em (x1 = 7) with c_9 | c_9
    · skip
      refine lv_tableIn (off := 107) (tgt := 120) X.1 X.2.1 dX11_most_13 (by rw [c_9]; decide) (by rw [c_9]; decide) (by rw [c_9]; decide) (by decide) ?_
      refine lv_aload_n X.1 X.2.1 dX11_most_120 rfl (lv_at hl 0 rfl) ?_
      refine g11_3 X I (k := 0) (by decide) rfl lf_X11_35 dX11_most_121 ?_
      refine lv_aload_n X.1 X.2.1 dX11_most_124 rfl (lv_at hl 0 rfl) ?_
      refine g11_5 X I (k := 0) (by decide) rfl lf_X11_49 dX11_most_125 ?_
      refine g0_4 X I (k := 24) (by decide) rfl lf_X11_213 dX11_most_128 ?_
      refine lv_iconst (v := (-1)) X.1 X.2.1 dX11_most_131 (by decide) ?_
      refine r_ei I (r_runV X I pk_X8_distance (c8_distance l G (k := 10) ⟨by decide, rfl, rfl, rfl⟩ _ _ _ _) lm_X11_206 (by decide) (cl_8 rfl) rfl rfl rfl hl.1 rfl (Nat.le_of_ble_eq_true rfl) dX11_most_132 ⟨Nat.le_of_ble_eq_true rfl, Nat.le_of_ble_eq_true rfl⟩ ⟨Nat.le_refl 0, Nat.le_refl 0⟩) (fun H locs I => ?_)
      have h9 := hE.trans ((if_pos (b2i_y c_1)).trans ((if_neg c_2).trans ((if_neg c_3).trans ((if_neg c_4).trans ((if_neg c_5).trans ((if_neg c_6).trans ((if_neg c_7).trans ((if_neg c_8).trans ((if_pos c_9).trans rfl)))))))))
      exact r_iret X I (e_i (h9).symm rfl rfl) dX11_most_135
    refine lv_tableD (L := [0, 1, 2, 3, 4, 5, 6, 7]) (tgt := 136) X.1 X.2.1 dX11_most_13 (by decide) (List.forall_mem_cons.mpr ⟨c_2, (List.forall_mem_cons.mpr ⟨c_3, (List.forall_mem_cons.mpr ⟨c_4, (List.forall_mem_cons.mpr ⟨c_5, (List.forall_mem_cons.mpr ⟨c_6, (List.forall_mem_cons.mpr ⟨c_7, (List.forall_mem_cons.mpr ⟨c_8, (List.forall_mem_cons.mpr ⟨c_9, (fun _ h => absurd h List.not_mem_nil)⟩)⟩)⟩)⟩)⟩)⟩)⟩)⟩) (by decide) ?_
    refine lv_iconst (v := (-1)) X.1 X.2.1 dX11_most_136 (by decide) ?_
    have h9 := hE.trans ((if_pos (b2i_y c_1)).trans ((if_neg c_2).trans ((if_neg c_3).trans ((if_neg c_4).trans ((if_neg c_5).trans ((if_neg c_6).trans ((if_neg c_7).trans ((if_neg c_8).trans ((if_neg c_9).trans rfl)))))))))
    exact r_iret X I (e_i (h9).symm rfl rfl) dX11_most_137
  · skip
    refine lv_iconst (v := (-1)) X.1 X.2.1 dX11_most_10 (by decide) ?_
    have h9 := hE.trans ((if_neg (b2i_n c_1)).trans rfl)
    exact r_iret X I (e_i (h9).symm rfl rfl) dX11_most_11
def f11_years_c26 (σ : SI) (x1 : Int32) : Nat → Int32 → Int32
  | 0, _ => 0
  | fu + 1, v2 => if (60 : Int32) < v2 then (-1 : Int32) else (if (f11_grievancesIn σ v2) < x1 then (f11_years_c26 σ x1 fu (v2 + 1)) else v2)
def f11_years (σ : SI) (x1 : Int32) : Int32 := if (f8_isTold 10 σ) = true then (if x1 < (1 : Int32) then (-1 : Int32) else (if x1 ≤ (200 : Int32) then (f11_years_c26 σ x1 ((Int32.toInt (60 : Int32) + 1 - Int32.toInt (0 : Int32)).toNat + 1) (0 : Int32)) else (-1 : Int32))) else (-1 : Int32)
set_option maxHeartbeats 4000000 in
set_option maxRecDepth 100000 in
theorem c11_years_c26 {l : Launch} {p : Program} {e : Env} {s : State} {m : MethodId} {args : Array Value} {below : List Frame} {meth : Method} {c : Code} {G : GT} (X : CX p s m args meth c cX11_years RX11 3 (some .int) G) {E : Int32} (σ : SI) (τ : SL) (x1 : Int32) : ∀ (fu : Nat) (v2 : Int32) (H : Heap) (locs : List Loc) (ls : Array Slot), IX G s H locs σ τ → lv_has ls 3 [(0, .ref (G.2.1 0)), (1, .int x1), (2, .int v2)] → (Int32.toInt (60 : Int32) + 1 - Int32.toInt v2).toNat < fu → E = (f11_years_c26 σ x1 fu v2) → W p l e (rmN 7) s m args below meth c H locs 0 0 (MQ below ((Qi G (Ei E σ τ)) s.heap.size) args s 0 0 (AW G s.heap.size)) (F0 m 26 ls []) := by
  intro fu
  induction fu with
  | zero =>
    intro v2 H locs ls I hl  hm hE
    exact absurd hm (Nat.not_lt_zero _)
  | succ fu ih =>
    intro v2 H locs ls I hl  hm hE
    refine lv_iload_n X.1 X.2.1 dX11_years_26 rfl (lv_at hl 2 rfl) ?_
    refine lv_bipush (v := 60) X.1 X.2.1 dX11_years_27 (by decide) ?_
    refine lv_icmp_gt (tgt := 49) X.1 X.2.1 dX11_years_29 (by decide) (fun c_4 => ?_) (fun c_4 => ?_)
    · skip
      refine lv_iconst (v := (-1)) X.1 X.2.1 dX11_years_49 (by decide) ?_
      have h9 := hE.trans ((if_pos c_4).trans rfl)
      exact r_iret X I (e_i (h9).symm rfl rfl) dX11_years_50
    · skip
      refine lv_aload_n X.1 X.2.1 dX11_years_32 rfl (lv_at hl 0 rfl) ?_
      refine lv_iload_n X.1 X.2.1 dX11_years_33 rfl (lv_at hl 2 rfl) ?_
      refine r_ei I (r_runV X I pk_X11_grievancesIn (c11_grievancesIn l G _ _ _) lm_X11_449 (by decide) (cl_11 rfl) rfl rfl rfl hl.1 rfl (Nat.le_of_ble_eq_true rfl) dX11_years_34 ⟨Nat.le_of_ble_eq_true rfl, Nat.le_of_ble_eq_true rfl⟩ ⟨Nat.le_refl 0, Nat.le_refl 0⟩) (fun H locs I => ?_)
      refine lv_iload_n X.1 X.2.1 dX11_years_37 rfl (lv_at hl 1 rfl) ?_
      refine lv_icmp_lt (tgt := 43) X.1 X.2.1 dX11_years_38 (by decide) (fun c_5 => ?_) (fun c_5 => ?_)
      · skip
        refine lv_iinc (v := _ + 1) (lv' := [(2, .int _), (0, .ref _), (1, .int _)]) X.1 X.2.1 dX11_years_43 hl (k := 2) rfl rfl (by decide) rfl (fun ls hl => ?_)
        refine lv_goto (tgt := 26) X.1 X.2.1 dX11_years_46 (by decide) ?_
        exact ih _ _ _ _ I (lv_sub hl [1, 2, 0] rfl) (Nat.lt_of_lt_of_le (up_decE (by decide) c_4) (Nat.le_of_lt_succ hm)) (hE.trans ((if_neg c_4).trans ((if_pos c_5).trans rfl)))
      · skip
        refine lv_iload_n X.1 X.2.1 dX11_years_41 rfl (lv_at hl 2 rfl) ?_
        have h9 := hE.trans ((if_neg c_4).trans ((if_neg c_5).trans rfl))
        exact r_iret X I (e_i (h9).symm rfl rfl) dX11_years_42
set_option maxHeartbeats 4000000 in
set_option maxRecDepth 100000 in
theorem c11_years (l : Launch) (G : GT) (σ : SI) (τ : SL) (x1 : Int32) : Mc l yX11_years cX11_years 3 (some .int) 7 G [.ref (G.2.1 0), .int x1] σ τ (Qi G (Ei (f11_years σ x1) σ τ)) := by
  refine m_start (by decide +kernel) (Nat.le_of_ble_eq_true rfl) rfl (fun p e s m args below meth c ls X I hl => ?_)
  have hl : lv_has ls 3 [(0, .ref (G.2.1 0)), (1, .int x1)] := hl
  obtain ⟨E, hE⟩ : ∃ E, E = (f11_years σ x1) := ⟨_, rfl⟩
  rw [← hE]
  refine lv_aload_n X.1 X.2.1 dX11_years_0 rfl (lv_at hl 0 rfl) ?_
  refine g11_3 X I (k := 0) (by decide) rfl lf_X11_35 dX11_years_1 ?_
  refine r_ei I (r_runV X I pk_X8_isTold (c8_isTold l G (k := 10) ⟨by decide, rfl, rfl, rfl⟩ _ _) lm_X11_158 (by decide) (cl_8 rfl) rfl rfl rfl hl.1 rfl (Nat.le_of_ble_eq_true rfl) dX11_years_4 ⟨Nat.le_of_ble_eq_true rfl, Nat.le_of_ble_eq_true rfl⟩ ⟨Nat.le_refl 0, Nat.le_refl 0⟩) (fun H locs I => ?_)
  refine lv_if_eq (tgt := 22) X.1 X.2.1 dX11_years_7 (by decide) (fun c_1 => ?_) (fun c_1 => ?_)
  · skip
    refine lv_iconst (v := (-1)) X.1 X.2.1 dX11_years_22 (by decide) ?_
    have h9 := hE.trans ((if_neg (b2i_n c_1)).trans rfl)
    exact r_iret X I (e_i (h9).symm rfl rfl) dX11_years_23
  · skip
    refine lv_iload_n X.1 X.2.1 dX11_years_10 rfl (lv_at hl 1 rfl) ?_
    refine lv_iconst (v := 1) X.1 X.2.1 dX11_years_11 (by decide) ?_
    refine lv_icmp_lt (tgt := 22) X.1 X.2.1 dX11_years_12 (by decide) (fun c_2 => ?_) (fun c_2 => ?_)
    · skip
      refine lv_iconst (v := (-1)) X.1 X.2.1 dX11_years_22 (by decide) ?_
      have h9 := hE.trans ((if_pos (b2i_y c_1)).trans ((if_pos c_2).trans rfl))
      exact r_iret X I (e_i (h9).symm rfl rfl) dX11_years_23
    · skip
      refine lv_iload_n X.1 X.2.1 dX11_years_15 rfl (lv_at hl 1 rfl) ?_
      refine lv_sipush (v := 200) X.1 X.2.1 dX11_years_16 (by decide) ?_
      refine lv_icmp_le (tgt := 24) X.1 X.2.1 dX11_years_19 (by decide) (fun c_3 => ?_) (fun c_3 => ?_)
      · skip
        refine lv_iconst (v := 0) X.1 X.2.1 dX11_years_24 (by decide) ?_
        refine lv_istore_n (lv' := [(2, .int _), (0, .ref _), (1, .int _)]) X.1 X.2.1 dX11_years_25 rfl hl (by decide) rfl (fun ls hl => ?_)
        exact c11_years_c26 X _ _ _ _ _ _ _ _ I (lv_sub hl [1, 2, 0] rfl) (Nat.lt_succ_self _) (hE.trans ((if_pos (b2i_y c_1)).trans ((if_neg c_2).trans ((if_pos c_3).trans rfl))))
      · skip
        refine lv_iconst (v := (-1)) X.1 X.2.1 dX11_years_22 (by decide) ?_
        have h9 := hE.trans ((if_pos (b2i_y c_1)).trans ((if_neg c_2).trans ((if_neg c_3).trans rfl)))
        exact r_iret X I (e_i (h9).symm rfl rfl) dX11_years_23
def f11_waits_c26 (x1 : Int32) : Nat → Int32 → Int32 → SI → (Int32 × SI)
  | 0, _, _, σ => (0, σ)
  | fu + 1, v2, v3, σ => if (f8_houses 10 σ) ≤ v3 then (v2, σ) else (if (f0_wasAt 24 σ v3) = true then (f11_waits_c26 x1 fu v2 (v3 + 1) σ) else (let r0 := (f11_standsNow σ v3 (f0_grievanceOf 24 σ v3)); if r0.1 < x1 then (f11_waits_c26 x1 fu v2 (v3 + 1) r0.2) else (f11_waits_c26 x1 fu (v2 ||| ((1 : Int32) <<< (v3 &&& 31))) (v3 + 1) r0.2)))
def f11_waits (σ : SI) (x1 : Int32) : Int32 × SI := if (f8_isTold 10 σ) = true then (if x1 < (0 : Int32) then ((-1 : Int32), σ) else (if x1 ≤ (60 : Int32) then (f11_waits_c26 x1 ((Int32.toInt (f8_houses 10 σ) - Int32.toInt (0 : Int32)).toNat + 1) (0 : Int32) (0 : Int32) σ) else ((-1 : Int32), σ))) else ((-1 : Int32), σ)
theorem w_f11_waits_c26 (x1 : Int32) (a : Nat) (h0 : a ≠ 13) (h1 : a ≠ 15) : ∀ (fu : Nat) (v2 : Int32) (v3 : Int32) (σ : SI), (f11_waits_c26 x1 fu v2 v3 σ).2 a = σ a := by
  intro fu
  induction fu with
  | zero => intros; rfl
  | succ fu ih =>
    intro v2 v3 σ
    unfold f11_waits_c26
    (repeat' split) <;> (first | rfl | (simp only [sp_n, su_n, ne_eq, not_false_eq_true, h0, h1, w_f11_standsNow, ih]; done) | (simp [sp_n, su_n, ne_eq, not_false_eq_true, h0, h1, w_f11_standsNow, ih]; done))
theorem w_f11_waits (σ : SI) (x1 : Int32) (a : Nat) (h0 : a ≠ 13) (h1 : a ≠ 15) : (f11_waits σ x1).2 a = σ a := by
  unfold f11_waits
  (repeat' split) <;> (first | rfl | (simp only [sp_n, su_n, ne_eq, not_false_eq_true, h0, h1, w_f11_standsNow, w_f11_waits_c26]; done) | (simp [sp_n, su_n, ne_eq, not_false_eq_true, h0, h1, w_f11_standsNow, w_f11_waits_c26]; done))
set_option maxHeartbeats 4000000 in
set_option maxRecDepth 100000 in
theorem c11_waits_c26 {l : Launch} {p : Program} {e : Env} {s : State} {m : MethodId} {args : Array Value} {below : List Frame} {meth : Method} {c : Code} {G : GT} (X : CX p s m args meth c cX11_waits RX11 4 (some .int) G) {E : Int32 × SI} (τ : SL) (x1 : Int32) : ∀ (fu : Nat) (v2 : Int32) (v3 : Int32) (σ : SI) (H : Heap) (locs : List Loc) (ls : Array Slot), IX G s H locs σ τ → lv_has ls 4 [(0, .ref (G.2.1 0)), (1, .int x1), (2, .int v2), (3, .int v3)] → (Int32.toInt (f8_houses 10 σ) - Int32.toInt v3).toNat < fu → E = (f11_waits_c26 x1 fu v2 v3 σ) → W p l e (rmN 8) s m args below meth c H locs 0 0 (MQ below ((Qi G (Ei E.1 E.2 τ)) s.heap.size) args s 0 0 (AW G s.heap.size)) (F0 m 26 ls []) := by
  intro fu
  induction fu with
  | zero =>
    intro v2 v3 σ H locs ls I hl  hm hE
    exact absurd hm (Nat.not_lt_zero _)
  | succ fu ih =>
    intro v2 v3 σ H locs ls I hl  hm hE
    refine lv_iload_n X.1 X.2.1 dX11_waits_26 rfl (lv_at hl 3 rfl) ?_
    refine lv_aload_n X.1 X.2.1 dX11_waits_27 rfl (lv_at hl 0 rfl) ?_
    refine g11_3 X I (k := 0) (by decide) rfl lf_X11_35 dX11_waits_28 ?_
    refine r_ei I (r_runV X I pk_X8_houses (c8_houses l G (k := 10) ⟨by decide, rfl, rfl, rfl⟩ _ _) lm_X11_155 (by decide) (cl_8 rfl) rfl rfl rfl hl.1 rfl (Nat.le_of_ble_eq_true rfl) dX11_waits_31 ⟨Nat.le_of_ble_eq_true rfl, Nat.le_of_ble_eq_true rfl⟩ ⟨Nat.le_refl 0, Nat.le_refl 0⟩) (fun H locs I => ?_)
    refine lv_icmp_ge (tgt := 77) X.1 X.2.1 dX11_waits_34 (by decide) (fun c_4 => ?_) (fun c_4 => ?_)
    · skip
      refine lv_iload_n X.1 X.2.1 dX11_waits_77 rfl (lv_at hl 2 rfl) ?_
      have h9 := hE.trans ((if_pos c_4).trans rfl)
      exact r_iret X I (e_i (congrArg Prod.fst h9).symm (congrArg Prod.snd h9).symm rfl) dX11_waits_78
    · skip
      refine lv_aload_n X.1 X.2.1 dX11_waits_37 rfl (lv_at hl 0 rfl) ?_
      refine g11_5 X I (k := 0) (by decide) rfl lf_X11_49 dX11_waits_38 ?_
      refine lv_iload_n X.1 X.2.1 dX11_waits_41 rfl (lv_at hl 3 rfl) ?_
      refine r_ei I (r_runV X I pk_X0_wasAt (c0_wasAt l G (k := 24) ⟨by decide, rfl, rfl⟩ _ _ _) lm_X11_191 (by decide) (cl_0 rfl) rfl rfl rfl hl.1 rfl (Nat.le_of_ble_eq_true rfl) dX11_waits_42 ⟨Nat.le_of_ble_eq_true rfl, Nat.le_of_ble_eq_true rfl⟩ ⟨Nat.le_refl 0, Nat.le_refl 0⟩) (fun H locs I => ?_)
      refine lv_if_ne (tgt := 71) X.1 X.2.1 dX11_waits_45 (by decide) (fun c_5 => ?_) (fun c_5 => ?_)
      · skip
        refine lv_iinc (v := _ + 1) (lv' := [(3, .int _), (0, .ref _), (1, .int _), (2, .int _)]) X.1 X.2.1 dX11_waits_71 hl (k := 3) rfl rfl (by decide) rfl (fun ls hl => ?_)
        refine lv_goto (tgt := 26) X.1 X.2.1 dX11_waits_74 (by decide) ?_
        exact ih _ _ _ _ _ _ I (lv_sub hl [1, 2, 3, 0] rfl) (Nat.lt_of_lt_of_le (dec_c (by first | rfl | simp [f8_houses, f11_cell, w_f11_standsNow, sp_n]) (up_dec c_4)) (Nat.le_of_lt_succ hm)) (hE.trans ((if_neg c_4).trans ((if_pos (b2i_y c_5)).trans rfl)))
      · skip
        refine lv_aload_n X.1 X.2.1 dX11_waits_48 rfl (lv_at hl 0 rfl) ?_
        refine lv_iload_n X.1 X.2.1 dX11_waits_49 rfl (lv_at hl 3 rfl) ?_
        refine lv_aload_n X.1 X.2.1 dX11_waits_50 rfl (lv_at hl 0 rfl) ?_
        refine g11_5 X I (k := 0) (by decide) rfl lf_X11_49 dX11_waits_51 ?_
        refine lv_iload_n X.1 X.2.1 dX11_waits_54 rfl (lv_at hl 3 rfl) ?_
        refine r_ei I (r_runV X I pk_X0_grievanceOf (c0_grievanceOf l G (k := 24) ⟨by decide, rfl, rfl⟩ _ _ _) lm_X11_185 (by decide) (cl_0 rfl) rfl rfl rfl hl.1 rfl (Nat.le_of_ble_eq_true rfl) dX11_waits_55 ⟨Nat.le_of_ble_eq_true rfl, Nat.le_of_ble_eq_true rfl⟩ ⟨Nat.le_refl 0, Nat.le_refl 0⟩) (fun H locs I => ?_)
        refine r_ei I (r_runV X I pk_X11_standsNow (c11_standsNow l G _ _ _ _) lm_X11_210 (by decide) (cl_11 rfl) rfl rfl rfl hl.1 rfl (Nat.le_of_ble_eq_true rfl) dX11_waits_58 ⟨Nat.le_of_ble_eq_true rfl, Nat.le_of_ble_eq_true rfl⟩ ⟨Nat.le_refl 0, Nat.le_refl 0⟩) (fun H locs I => ?_)
        refine lv_iload_n X.1 X.2.1 dX11_waits_61 rfl (lv_at hl 1 rfl) ?_
        refine lv_icmp_lt (tgt := 71) X.1 X.2.1 dX11_waits_62 (by decide) (fun c_6 => ?_) (fun c_6 => ?_)
        · skip
          refine lv_iinc (v := _ + 1) (lv' := [(3, .int _), (0, .ref _), (1, .int _), (2, .int _)]) X.1 X.2.1 dX11_waits_71 hl (k := 3) rfl rfl (by decide) rfl (fun ls hl => ?_)
          refine lv_goto (tgt := 26) X.1 X.2.1 dX11_waits_74 (by decide) ?_
          exact ih _ _ _ _ _ _ I (lv_sub hl [1, 2, 3, 0] rfl) (Nat.lt_of_lt_of_le (dec_c (by first | rfl | simp [f8_houses, f11_cell, w_f11_standsNow, sp_n]) (up_dec c_4)) (Nat.le_of_lt_succ hm)) (hE.trans ((if_neg c_4).trans ((if_neg (b2i_n c_5)).trans ((if_pos c_6).trans rfl))))
        · skip
          refine lv_iload_n X.1 X.2.1 dX11_waits_65 rfl (lv_at hl 2 rfl) ?_
          refine lv_iconst (v := 1) X.1 X.2.1 dX11_waits_66 (by decide) ?_
          refine lv_iload_n X.1 X.2.1 dX11_waits_67 rfl (lv_at hl 3 rfl) ?_
          refine lv_ishl X.1 X.2.1 dX11_waits_68 ?_
          refine lv_ior X.1 X.2.1 dX11_waits_69 ?_
          refine lv_istore_n (lv' := [(2, .int _), (0, .ref _), (1, .int _), (3, .int _)]) X.1 X.2.1 dX11_waits_70 rfl hl (by decide) rfl (fun ls hl => ?_)
          refine lv_iinc (v := _ + 1) (lv' := [(3, .int _), (2, .int _), (0, .ref _), (1, .int _)]) X.1 X.2.1 dX11_waits_71 hl (k := 3) rfl rfl (by decide) rfl (fun ls hl => ?_)
          refine lv_goto (tgt := 26) X.1 X.2.1 dX11_waits_74 (by decide) ?_
          exact ih _ _ _ _ _ _ I (lv_sub hl [2, 3, 1, 0] rfl) (Nat.lt_of_lt_of_le (dec_c (by first | rfl | simp [f8_houses, f11_cell, w_f11_standsNow, sp_n]) (up_dec c_4)) (Nat.le_of_lt_succ hm)) (hE.trans ((if_neg c_4).trans ((if_neg (b2i_n c_5)).trans ((if_neg c_6).trans rfl))))
set_option maxHeartbeats 4000000 in
set_option maxRecDepth 100000 in
theorem c11_waits (l : Launch) (G : GT) (σ : SI) (τ : SL) (x1 : Int32) : Mc l yX11_waits cX11_waits 4 (some .int) 8 G [.ref (G.2.1 0), .int x1] σ τ (Qi G (Ei (f11_waits σ x1).1 (f11_waits σ x1).2 τ)) := by
  refine m_start (by decide +kernel) (Nat.le_of_ble_eq_true rfl) rfl (fun p e s m args below meth c ls X I hl => ?_)
  have hl : lv_has ls 4 [(0, .ref (G.2.1 0)), (1, .int x1)] := hl
  obtain ⟨E, hE⟩ : ∃ E, E = (f11_waits σ x1) := ⟨_, rfl⟩
  rw [← hE]
  refine lv_aload_n X.1 X.2.1 dX11_waits_0 rfl (lv_at hl 0 rfl) ?_
  refine g11_3 X I (k := 0) (by decide) rfl lf_X11_35 dX11_waits_1 ?_
  refine r_ei I (r_runV X I pk_X8_isTold (c8_isTold l G (k := 10) ⟨by decide, rfl, rfl, rfl⟩ _ _) lm_X11_158 (by decide) (cl_8 rfl) rfl rfl rfl hl.1 rfl (Nat.le_of_ble_eq_true rfl) dX11_waits_4 ⟨Nat.le_of_ble_eq_true rfl, Nat.le_of_ble_eq_true rfl⟩ ⟨Nat.le_refl 0, Nat.le_refl 0⟩) (fun H locs I => ?_)
  refine lv_if_eq (tgt := 20) X.1 X.2.1 dX11_waits_7 (by decide) (fun c_1 => ?_) (fun c_1 => ?_)
  · skip
    refine lv_iconst (v := (-1)) X.1 X.2.1 dX11_waits_20 (by decide) ?_
    have h9 := hE.trans ((if_neg (b2i_n c_1)).trans rfl)
    exact r_iret X I (e_i (congrArg Prod.fst h9).symm (congrArg Prod.snd h9).symm rfl) dX11_waits_21
  · skip
    refine lv_iload_n X.1 X.2.1 dX11_waits_10 rfl (lv_at hl 1 rfl) ?_
    refine lv_if_lt (tgt := 20) X.1 X.2.1 dX11_waits_11 (by decide) (fun c_2 => ?_) (fun c_2 => ?_)
    · skip
      refine lv_iconst (v := (-1)) X.1 X.2.1 dX11_waits_20 (by decide) ?_
      have h9 := hE.trans ((if_pos (b2i_y c_1)).trans ((if_pos c_2).trans rfl))
      exact r_iret X I (e_i (congrArg Prod.fst h9).symm (congrArg Prod.snd h9).symm rfl) dX11_waits_21
    · skip
      refine lv_iload_n X.1 X.2.1 dX11_waits_14 rfl (lv_at hl 1 rfl) ?_
      refine lv_bipush (v := 60) X.1 X.2.1 dX11_waits_15 (by decide) ?_
      refine lv_icmp_le (tgt := 22) X.1 X.2.1 dX11_waits_17 (by decide) (fun c_3 => ?_) (fun c_3 => ?_)
      · skip
        refine lv_iconst (v := 0) X.1 X.2.1 dX11_waits_22 (by decide) ?_
        refine lv_istore_n (lv' := [(2, .int _), (0, .ref _), (1, .int _)]) X.1 X.2.1 dX11_waits_23 rfl hl (by decide) rfl (fun ls hl => ?_)
        refine lv_iconst (v := 0) X.1 X.2.1 dX11_waits_24 (by decide) ?_
        refine lv_istore_n (lv' := [(3, .int _), (2, .int _), (0, .ref _), (1, .int _)]) X.1 X.2.1 dX11_waits_25 rfl hl (by decide) rfl (fun ls hl => ?_)
        exact c11_waits_c26 X _ _ _ _ _ _ _ _ _ I (lv_sub hl [2, 3, 1, 0] rfl) (Nat.lt_succ_self _) (hE.trans ((if_pos (b2i_y c_1)).trans ((if_neg c_2).trans ((if_pos c_3).trans rfl))))
      · skip
        refine lv_iconst (v := (-1)) X.1 X.2.1 dX11_waits_20 (by decide) ?_
        have h9 := hE.trans ((if_pos (b2i_y c_1)).trans ((if_neg c_2).trans ((if_neg c_3).trans rfl)))
        exact r_iret X I (e_i (congrArg Prod.fst h9).symm (congrArg Prod.snd h9).symm rfl) dX11_waits_21
def f11_remains (σ : SI) (x1 : Int32) : Int32 × SI := if (f8_isHouse 10 σ x1) = true then (let r0 := (f11_standsNow σ x1 (f0_grievanceOf 24 σ x1)); (((((f8_timeThereIs 10 σ) - (σ 24 2)) - (f11_stepsTo σ x1)) - r0.1), r0.2)) else ((-1000000 : Int32), σ)
theorem w_f11_remains (σ : SI) (x1 : Int32) (a : Nat) (h0 : a ≠ 13) (h1 : a ≠ 15) : (f11_remains σ x1).2 a = σ a := by
  unfold f11_remains
  (repeat' split) <;> (first | rfl | (simp only [sp_n, su_n, ne_eq, not_false_eq_true, h0, h1, w_f11_standsNow]; done) | (simp [sp_n, su_n, ne_eq, not_false_eq_true, h0, h1, w_f11_standsNow]; done))
set_option maxHeartbeats 4000000 in
set_option maxRecDepth 100000 in
theorem c11_remains (l : Launch) (G : GT) (σ : SI) (τ : SL) (x1 : Int32) : Mc l yX11_remains cX11_remains 2 (some .int) 8 G [.ref (G.2.1 0), .int x1] σ τ (Qi G (Ei (f11_remains σ x1).1 (f11_remains σ x1).2 τ)) := by
  refine m_start (by decide +kernel) (Nat.le_of_ble_eq_true rfl) rfl (fun p e s m args below meth c ls X I hl => ?_)
  have hl : lv_has ls 2 [(0, .ref (G.2.1 0)), (1, .int x1)] := hl
  obtain ⟨E, hE⟩ : ∃ E, E = (f11_remains σ x1) := ⟨_, rfl⟩
  rw [← hE]
  refine lv_aload_n X.1 X.2.1 dX11_remains_0 rfl (lv_at hl 0 rfl) ?_
  refine g11_3 X I (k := 0) (by decide) rfl lf_X11_35 dX11_remains_1 ?_
  refine lv_iload_n X.1 X.2.1 dX11_remains_4 rfl (lv_at hl 1 rfl) ?_
  refine r_ei I (r_runV X I pk_X8_isHouse (c8_isHouse l G (k := 10) ⟨by decide, rfl, rfl, rfl⟩ _ _ _) lm_X11_173 (by decide) (cl_8 rfl) rfl rfl rfl hl.1 rfl (Nat.le_of_ble_eq_true rfl) dX11_remains_5 ⟨Nat.le_of_ble_eq_true rfl, Nat.le_of_ble_eq_true rfl⟩ ⟨Nat.le_refl 0, Nat.le_refl 0⟩) (fun H locs I => ?_)
  refine lv_if_ne (tgt := 15) X.1 X.2.1 dX11_remains_8 (by decide) (fun c_1 => ?_) (fun c_1 => ?_)
  · skip
    refine lv_aload_n X.1 X.2.1 dX11_remains_15 rfl (lv_at hl 0 rfl) ?_
    refine g11_3 X I (k := 0) (by decide) rfl lf_X11_35 dX11_remains_16 ?_
    refine r_ei I (r_runV X I pk_X8_timeThereIs (c8_timeThereIs l G (k := 10) ⟨by decide, rfl, rfl, rfl⟩ _ _) lm_X11_161 (by decide) (cl_8 rfl) rfl rfl rfl hl.1 rfl (Nat.le_of_ble_eq_true rfl) dX11_remains_19 ⟨Nat.le_of_ble_eq_true rfl, Nat.le_of_ble_eq_true rfl⟩ ⟨Nat.le_refl 0, Nat.le_refl 0⟩) (fun H locs I => ?_)
    refine lv_aload_n X.1 X.2.1 dX11_remains_22 rfl (lv_at hl 0 rfl) ?_
    refine g11_5 X I (k := 0) (by decide) rfl lf_X11_49 dX11_remains_23 ?_
    refine g0_2 X I (k := 24) (by decide) rfl lf_X11_216 dX11_remains_26 ?_
    refine lv_isub X.1 X.2.1 dX11_remains_29 ?_
    refine lv_aload_n X.1 X.2.1 dX11_remains_30 rfl (lv_at hl 0 rfl) ?_
    refine lv_iload_n X.1 X.2.1 dX11_remains_31 rfl (lv_at hl 1 rfl) ?_
    refine r_ei I (r_runV X I pk_X11_stepsTo (c11_stepsTo l G _ _ _) lm_X11_203 (by decide) (cl_11 rfl) rfl rfl rfl hl.1 rfl (Nat.le_of_ble_eq_true rfl) dX11_remains_32 ⟨Nat.le_of_ble_eq_true rfl, Nat.le_of_ble_eq_true rfl⟩ ⟨Nat.le_refl 0, Nat.le_refl 0⟩) (fun H locs I => ?_)
    refine lv_isub X.1 X.2.1 dX11_remains_35 ?_
    refine lv_aload_n X.1 X.2.1 dX11_remains_36 rfl (lv_at hl 0 rfl) ?_
    refine lv_iload_n X.1 X.2.1 dX11_remains_37 rfl (lv_at hl 1 rfl) ?_
    refine lv_aload_n X.1 X.2.1 dX11_remains_38 rfl (lv_at hl 0 rfl) ?_
    refine g11_5 X I (k := 0) (by decide) rfl lf_X11_49 dX11_remains_39 ?_
    refine lv_iload_n X.1 X.2.1 dX11_remains_42 rfl (lv_at hl 1 rfl) ?_
    refine r_ei I (r_runV X I pk_X0_grievanceOf (c0_grievanceOf l G (k := 24) ⟨by decide, rfl, rfl⟩ _ _ _) lm_X11_185 (by decide) (cl_0 rfl) rfl rfl rfl hl.1 rfl (Nat.le_of_ble_eq_true rfl) dX11_remains_43 ⟨Nat.le_of_ble_eq_true rfl, Nat.le_of_ble_eq_true rfl⟩ ⟨Nat.le_refl 0, Nat.le_refl 0⟩) (fun H locs I => ?_)
    refine r_ei I (r_runV X I pk_X11_standsNow (c11_standsNow l G _ _ _ _) lm_X11_210 (by decide) (cl_11 rfl) rfl rfl rfl hl.1 rfl (Nat.le_of_ble_eq_true rfl) dX11_remains_46 ⟨Nat.le_of_ble_eq_true rfl, Nat.le_of_ble_eq_true rfl⟩ ⟨Nat.le_refl 0, Nat.le_refl 0⟩) (fun H locs I => ?_)
    refine lv_isub X.1 X.2.1 dX11_remains_49 ?_
    have h9 := hE.trans ((if_pos (b2i_y c_1)).trans rfl)
    exact r_iret X I (e_i (congrArg Prod.fst h9).symm (congrArg Prod.snd h9).symm rfl) dX11_remains_50
  · skip
    refine lv_ldcw X.1 X.2.1 (v := (-1000000)) X.2.2.2.2.1 (X.2.2.2.1 _ lq_X11_391) dX11_remains_11 ?_
    have h9 := hE.trans ((if_neg (b2i_n c_1)).trans rfl)
    exact r_iret X I (e_i (congrArg Prod.fst h9).symm (congrArg Prod.snd h9).symm rfl) dX11_remains_14
def f11_image (σ : SI) : Int32 × SI := if (f8_isTold 10 σ) = true then (let s0 := (f5_draw 24 σ); ((s0 24 6), s0)) else ((-1 : Int32), σ)
theorem w_f11_image (σ : SI) (a : Nat) (h0 : a ≠ 26) (h1 : a ≠ 29) (h2 : a ≠ 30) (h3 : a ≠ 31) : (f11_image σ).2 a = σ a := by
  unfold f11_image
  (repeat' split) <;> (first | rfl | (simp only [sp_n, su_n, ne_eq, not_false_eq_true, h0, h1, h2, h3, w_f5_draw]; done) | (simp [sp_n, su_n, ne_eq, not_false_eq_true, h0, h1, h2, h3, w_f5_draw]; done))
set_option maxHeartbeats 4000000 in
set_option maxRecDepth 100000 in
theorem c11_image (l : Launch) (G : GT) (σ : SI) (τ : SL) : Mc l yX11_image cX11_image 1 (some .int) 4 G [.ref (G.2.1 0)] σ τ (Qi G (Ei (f11_image σ).1 (f11_image σ).2 τ)) := by
  refine m_start (by decide +kernel) (Nat.le_of_ble_eq_true rfl) rfl (fun p e s m args below meth c ls X I hl => ?_)
  have hl : lv_has ls 1 [(0, .ref (G.2.1 0))] := hl
  obtain ⟨E, hE⟩ : ∃ E, E = (f11_image σ) := ⟨_, rfl⟩
  rw [← hE]
  refine lv_aload_n X.1 X.2.1 dX11_image_0 rfl (lv_at hl 0 rfl) ?_
  refine g11_3 X I (k := 0) (by decide) rfl lf_X11_35 dX11_image_1 ?_
  refine r_ei I (r_runV X I pk_X8_isTold (c8_isTold l G (k := 10) ⟨by decide, rfl, rfl, rfl⟩ _ _) lm_X11_158 (by decide) (cl_8 rfl) rfl rfl rfl hl.1 rfl (Nat.le_of_ble_eq_true rfl) dX11_image_4 ⟨Nat.le_of_ble_eq_true rfl, Nat.le_of_ble_eq_true rfl⟩ ⟨Nat.le_refl 0, Nat.le_refl 0⟩) (fun H locs I => ?_)
  refine lv_if_ne (tgt := 12) X.1 X.2.1 dX11_image_7 (by decide) (fun c_1 => ?_) (fun c_1 => ?_)
  · skip
    refine lv_aload_n X.1 X.2.1 dX11_image_12 rfl (lv_at hl 0 rfl) ?_
    refine g11_6 X I (k := 0) (by decide) rfl lf_X11_56 dX11_image_13 ?_
    refine lv_aload_n X.1 X.2.1 dX11_image_16 rfl (lv_at hl 0 rfl) ?_
    refine g11_5 X I (k := 0) (by decide) rfl lf_X11_49 dX11_image_17 ?_
    refine r_ev I (r_runV X I pk_X5_draw (c5_draw l G (k1 := 24) ⟨by decide, rfl, rfl⟩ _ _) lm_X11_464 (by decide) (cl_5 rfl) rfl rfl rfl hl.1 rfl (Nat.le_of_ble_eq_true rfl) dX11_image_20 ⟨Nat.le_of_ble_eq_true rfl, Nat.le_of_ble_eq_true rfl⟩ ⟨Nat.le_refl 0, Nat.le_refl 0⟩) (fun H locs I => ?_)
    refine lv_aload_n X.1 X.2.1 dX11_image_23 rfl (lv_at hl 0 rfl) ?_
    refine g11_5 X I (k := 0) (by decide) rfl lf_X11_49 dX11_image_24 ?_
    refine g0_6 X I (k := 24) (by decide) rfl lf_X11_222 dX11_image_27 ?_
    have h9 := hE.trans ((if_pos (b2i_y c_1)).trans rfl)
    exact r_iret X I (e_i (congrArg Prod.fst h9).symm (congrArg Prod.snd h9).symm rfl) dX11_image_30
  · skip
    refine lv_iconst (v := (-1)) X.1 X.2.1 dX11_image_10 (by decide) ?_
    have h9 := hE.trans ((if_neg (b2i_n c_1)).trans rfl)
    exact r_iret X I (e_i (congrArg Prod.fst h9).symm (congrArg Prod.snd h9).symm rfl) dX11_image_11
def f11_back (σ : SI) : Int32 × SI := let r0 := (f5_bringBack 24 σ); if r0.1 = true then ((r0.2 24 6), r0.2) else ((-1 : Int32), r0.2)
theorem w_f11_back (σ : SI) (a : Nat) (h0 : a ≠ 24) (h1 : a ≠ 25) (h2 : a ≠ 26) (h3 : a ≠ 28) : (f11_back σ).2 a = σ a := by
  unfold f11_back
  (repeat' split) <;> (first | rfl | (simp only [sp_n, su_n, ne_eq, not_false_eq_true, h0, h1, h2, h3, w_f5_bringBack]; done) | (simp [sp_n, su_n, ne_eq, not_false_eq_true, h0, h1, h2, h3, w_f5_bringBack]; done))
set_option maxHeartbeats 4000000 in
set_option maxRecDepth 100000 in
theorem c11_back (l : Launch) (G : GT) (σ : SI) (τ : SL) : Mc l yX11_back cX11_back 1 (some .int) 4 G [.ref (G.2.1 0)] σ τ (Qi G (Ei (f11_back σ).1 (f11_back σ).2 τ)) := by
  refine m_start (by decide +kernel) (Nat.le_of_ble_eq_true rfl) rfl (fun p e s m args below meth c ls X I hl => ?_)
  have hl : lv_has ls 1 [(0, .ref (G.2.1 0))] := hl
  obtain ⟨E, hE⟩ : ∃ E, E = (f11_back σ) := ⟨_, rfl⟩
  rw [← hE]
  refine lv_aload_n X.1 X.2.1 dX11_back_0 rfl (lv_at hl 0 rfl) ?_
  refine g11_6 X I (k := 0) (by decide) rfl lf_X11_56 dX11_back_1 ?_
  refine lv_aload_n X.1 X.2.1 dX11_back_4 rfl (lv_at hl 0 rfl) ?_
  refine g11_5 X I (k := 0) (by decide) rfl lf_X11_49 dX11_back_5 ?_
  refine r_ei I (r_runV X I pk_X5_bringBack (c5_bringBack l G (k1 := 24) ⟨by decide, rfl, rfl⟩ _ _) lm_X11_466 (by decide) (cl_5 rfl) rfl rfl rfl hl.1 rfl (Nat.le_of_ble_eq_true rfl) dX11_back_8 ⟨Nat.le_of_ble_eq_true rfl, Nat.le_of_ble_eq_true rfl⟩ ⟨Nat.le_refl 0, Nat.le_refl 0⟩) (fun H locs I => ?_)
  refine lv_if_eq (tgt := 24) X.1 X.2.1 dX11_back_11 (by decide) (fun c_1 => ?_) (fun c_1 => ?_)
  · skip
    refine lv_iconst (v := (-1)) X.1 X.2.1 dX11_back_24 (by decide) ?_
    have h9 := hE.trans ((if_neg (b2i_n c_1)).trans rfl)
    exact r_iret X I (e_i (congrArg Prod.fst h9).symm (congrArg Prod.snd h9).symm rfl) dX11_back_25
  · skip
    refine lv_aload_n X.1 X.2.1 dX11_back_14 rfl (lv_at hl 0 rfl) ?_
    refine g11_5 X I (k := 0) (by decide) rfl lf_X11_49 dX11_back_15 ?_
    refine g0_6 X I (k := 24) (by decide) rfl lf_X11_222 dX11_back_18 ?_
    refine lv_goto (tgt := 25) X.1 X.2.1 dX11_back_21 (by decide) ?_
    have h9 := hE.trans ((if_pos (b2i_y c_1)).trans rfl)
    exact r_iret X I (e_i (congrArg Prod.fst h9).symm (congrArg Prod.snd h9).symm rfl) dX11_back_25
def f11_countNow (σ : SI) (x1 : Int32) : Int32 := if x1 = 5 then (σ 24 6) else (if x1 = 6 then (σ 24 2) else (if x1 = 7 then (σ 24 4) else (if x1 = 8 then (f0_doors 24 σ) else (if x1 = 9 then (σ 24 3) else (if x1 = 10 then (σ 24 7) else (if x1 = 14 then (f0_logLength 24 σ) else (-1000000 : Int32)))))))
set_option maxHeartbeats 4000000 in
set_option maxRecDepth 100000 in
theorem c11_countNow (l : Launch) (G : GT) (σ : SI) (τ : SL) (x1 : Int32) : Mc l yX11_countNow cX11_countNow 2 (some .int) 2 G [.ref (G.2.1 0), .int x1] σ τ (Qi G (Ei (f11_countNow σ x1) σ τ)) := by
  refine m_start (by decide +kernel) (Nat.le_of_ble_eq_true rfl) rfl (fun p e s m args below meth c ls X I hl => ?_)
  have hl : lv_has ls 2 [(0, .ref (G.2.1 0)), (1, .int x1)] := hl
  obtain ⟨E, hE⟩ : ∃ E, E = (f11_countNow σ x1) := ⟨_, rfl⟩
  rw [← hE]
  refine lv_iload_n X.1 X.2.1 dX11_countNow_0 rfl (lv_at hl 1 rfl) ?_
  rcases Classical.em (x1 = 5) with c_1 | c_1
  · skip
    refine lv_tableIn (off := 55) (tgt := 56) X.1 X.2.1 dX11_countNow_1 (by rw [c_1]; decide) (by rw [c_1]; decide) (by rw [c_1]; decide) (by decide) ?_
    refine lv_aload_n X.1 X.2.1 dX11_countNow_56 rfl (lv_at hl 0 rfl) ?_
    refine g11_5 X I (k := 0) (by decide) rfl lf_X11_49 dX11_countNow_57 ?_
    refine g0_6 X I (k := 24) (by decide) rfl lf_X11_222 dX11_countNow_60 ?_
    have h9 := hE.trans ((if_pos c_1).trans rfl)
    exact r_iret X I (e_i (h9).symm rfl rfl) dX11_countNow_63
  rcases Classical.em (x1 = 6) with c_2 | c_2
  · skip
    refine lv_tableIn (off := 63) (tgt := 64) X.1 X.2.1 dX11_countNow_1 (by rw [c_2]; decide) (by rw [c_2]; decide) (by rw [c_2]; decide) (by decide) ?_
    refine lv_aload_n X.1 X.2.1 dX11_countNow_64 rfl (lv_at hl 0 rfl) ?_
    refine g11_5 X I (k := 0) (by decide) rfl lf_X11_49 dX11_countNow_65 ?_
    refine g0_2 X I (k := 24) (by decide) rfl lf_X11_216 dX11_countNow_68 ?_
    have h9 := hE.trans ((if_neg c_1).trans ((if_pos c_2).trans rfl))
    exact r_iret X I (e_i (h9).symm rfl rfl) dX11_countNow_71
  rcases Classical.em (x1 = 7) with c_3 | c_3
  · skip
    refine lv_tableIn (off := 71) (tgt := 72) X.1 X.2.1 dX11_countNow_1 (by rw [c_3]; decide) (by rw [c_3]; decide) (by rw [c_3]; decide) (by decide) ?_
    refine lv_aload_n X.1 X.2.1 dX11_countNow_72 rfl (lv_at hl 0 rfl) ?_
    refine g11_5 X I (k := 0) (by decide) rfl lf_X11_49 dX11_countNow_73 ?_
    refine g0_4 X I (k := 24) (by decide) rfl lf_X11_213 dX11_countNow_76 ?_
    have h9 := hE.trans ((if_neg c_1).trans ((if_neg c_2).trans ((if_pos c_3).trans rfl)))
    exact r_iret X I (e_i (h9).symm rfl rfl) dX11_countNow_79
  rcases Classical.em (x1 = 8) with c_4 | c_4
  · skip
    refine lv_tableIn (off := 79) (tgt := 80) X.1 X.2.1 dX11_countNow_1 (by rw [c_4]; decide) (by rw [c_4]; decide) (by rw [c_4]; decide) (by decide) ?_
    refine lv_aload_n X.1 X.2.1 dX11_countNow_80 rfl (lv_at hl 0 rfl) ?_
    refine g11_5 X I (k := 0) (by decide) rfl lf_X11_49 dX11_countNow_81 ?_
    refine r_ei I (r_runV X I pk_X0_doors (c0_doors l G (k := 24) ⟨by decide, rfl, rfl⟩ _ _) lm_X11_219 (by decide) (cl_0 rfl) rfl rfl rfl hl.1 rfl (Nat.le_of_ble_eq_true rfl) dX11_countNow_84 ⟨Nat.le_of_ble_eq_true rfl, Nat.le_of_ble_eq_true rfl⟩ ⟨Nat.le_refl 0, Nat.le_refl 0⟩) (fun H locs I => ?_)
    have h9 := hE.trans ((if_neg c_1).trans ((if_neg c_2).trans ((if_neg c_3).trans ((if_pos c_4).trans rfl))))
    exact r_iret X I (e_i (h9).symm rfl rfl) dX11_countNow_87
  rcases Classical.em (x1 = 9) with c_5 | c_5
  · skip
    refine lv_tableIn (off := 87) (tgt := 88) X.1 X.2.1 dX11_countNow_1 (by rw [c_5]; decide) (by rw [c_5]; decide) (by rw [c_5]; decide) (by decide) ?_
    refine lv_aload_n X.1 X.2.1 dX11_countNow_88 rfl (lv_at hl 0 rfl) ?_
    refine g11_5 X I (k := 0) (by decide) rfl lf_X11_49 dX11_countNow_89 ?_
    refine g0_3 X I (k := 24) (by decide) rfl lf_X11_252 dX11_countNow_92 ?_
    have h9 := hE.trans ((if_neg c_1).trans ((if_neg c_2).trans ((if_neg c_3).trans ((if_neg c_4).trans ((if_pos c_5).trans rfl)))))
    exact r_iret X I (e_i (h9).symm rfl rfl) dX11_countNow_95
  rcases Classical.em (x1 = 10) with c_6 | c_6
  · skip
    refine lv_tableIn (off := 95) (tgt := 96) X.1 X.2.1 dX11_countNow_1 (by rw [c_6]; decide) (by rw [c_6]; decide) (by rw [c_6]; decide) (by decide) ?_
    refine lv_aload_n X.1 X.2.1 dX11_countNow_96 rfl (lv_at hl 0 rfl) ?_
    refine g11_5 X I (k := 0) (by decide) rfl lf_X11_49 dX11_countNow_97 ?_
    refine g0_7 X I (k := 24) (by decide) rfl lf_X11_262 dX11_countNow_100 ?_
    have h9 := hE.trans ((if_neg c_1).trans ((if_neg c_2).trans ((if_neg c_3).trans ((if_neg c_4).trans ((if_neg c_5).trans ((if_pos c_6).trans rfl))))))
    exact r_iret X I (e_i (h9).symm rfl rfl) dX11_countNow_103
  rcases Classical.em (x1 = 14) with c_7 | c_7
  · skip
    refine lv_tableIn (off := 103) (tgt := 104) X.1 X.2.1 dX11_countNow_1 (by rw [c_7]; decide) (by rw [c_7]; decide) (by rw [c_7]; decide) (by decide) ?_
    refine lv_aload_n X.1 X.2.1 dX11_countNow_104 rfl (lv_at hl 0 rfl) ?_
    refine g11_5 X I (k := 0) (by decide) rfl lf_X11_49 dX11_countNow_105 ?_
    refine r_ei I (r_runV X I pk_X0_logLength (c0_logLength l G (k := 24) ⟨by decide, rfl, rfl⟩ _ _) lm_X11_475 (by decide) (cl_0 rfl) rfl rfl rfl hl.1 rfl (Nat.le_of_ble_eq_true rfl) dX11_countNow_108 ⟨Nat.le_of_ble_eq_true rfl, Nat.le_of_ble_eq_true rfl⟩ ⟨Nat.le_refl 0, Nat.le_refl 0⟩) (fun H locs I => ?_)
    have h9 := hE.trans ((if_neg c_1).trans ((if_neg c_2).trans ((if_neg c_3).trans ((if_neg c_4).trans ((if_neg c_5).trans ((if_neg c_6).trans ((if_pos c_7).trans rfl)))))))
    exact r_iret X I (e_i (h9).symm rfl rfl) dX11_countNow_111
  refine lv_tableD (L := [5, 6, 7, 8, 9, 10, 14]) (tgt := 112) X.1 X.2.1 dX11_countNow_1 (by decide) (List.forall_mem_cons.mpr ⟨c_1, (List.forall_mem_cons.mpr ⟨c_2, (List.forall_mem_cons.mpr ⟨c_3, (List.forall_mem_cons.mpr ⟨c_4, (List.forall_mem_cons.mpr ⟨c_5, (List.forall_mem_cons.mpr ⟨c_6, (List.forall_mem_cons.mpr ⟨c_7, (fun _ h => absurd h List.not_mem_nil)⟩)⟩)⟩)⟩)⟩)⟩)⟩) (by decide) ?_
  refine lv_ldcw X.1 X.2.1 (v := (-1000000)) X.2.2.2.2.1 (X.2.2.2.1 _ lq_X11_391) dX11_countNow_112 ?_
  have h9 := hE.trans ((if_neg c_1).trans ((if_neg c_2).trans ((if_neg c_3).trans ((if_neg c_4).trans ((if_neg c_5).trans ((if_neg c_6).trans ((if_neg c_7).trans rfl)))))))
  exact r_iret X I (e_i (h9).symm rfl rfl) dX11_countNow_115
def f11_count (σ : SI) (x1 : Int32) : Int32 := if x1 = 0 then (f8_houses 10 σ) else (if x1 = 1 then (f8_bearers 10 σ) else (if x1 = 2 then (f2_number σ) else (if x1 = 3 then (f7_size σ) else (if x1 = 4 then (f2_holding σ) else (if x1 = 11 then (σ 0 14) else (if x1 = 12 then (f10_stoods σ) else (if x1 = 13 then (f10_seens σ) else (if x1 = 15 then (f5_kept σ) else (f11_countNow σ x1)))))))))
set_option maxHeartbeats 4000000 in
set_option maxRecDepth 100000 in
theorem c11_count (l : Launch) (G : GT) (σ : SI) (τ : SL) (x1 : Int32) : Mc l yX11_count cX11_count 2 (some .int) 3 G [.ref (G.2.1 0), .int x1] σ τ (Qi G (Ei (f11_count σ x1) σ τ)) := by
  refine m_start (by decide +kernel) (Nat.le_of_ble_eq_true rfl) rfl (fun p e s m args below meth c ls X I hl => ?_)
  have hl : lv_has ls 2 [(0, .ref (G.2.1 0)), (1, .int x1)] := hl
  obtain ⟨E, hE⟩ : ∃ E, E = (f11_count σ x1) := ⟨_, rfl⟩
  rw [← hE]
  refine lv_iload_n X.1 X.2.1 dX11_count_0 rfl (lv_at hl 1 rfl) ?_
  rcases Classical.em (x1 = 0) with c_1 | c_1
  · skip
    refine lv_tableIn (off := 79) (tgt := 80) X.1 X.2.1 dX11_count_1 (by rw [c_1]; decide) (by rw [c_1]; decide) (by rw [c_1]; decide) (by decide) ?_
    refine lv_aload_n X.1 X.2.1 dX11_count_80 rfl (lv_at hl 0 rfl) ?_
    refine g11_3 X I (k := 0) (by decide) rfl lf_X11_35 dX11_count_81 ?_
    refine r_ei I (r_runV X I pk_X8_houses (c8_houses l G (k := 10) ⟨by decide, rfl, rfl, rfl⟩ _ _) lm_X11_155 (by decide) (cl_8 rfl) rfl rfl rfl hl.1 rfl (Nat.le_of_ble_eq_true rfl) dX11_count_84 ⟨Nat.le_of_ble_eq_true rfl, Nat.le_of_ble_eq_true rfl⟩ ⟨Nat.le_refl 0, Nat.le_refl 0⟩) (fun H locs I => ?_)
    have h9 := hE.trans ((if_pos c_1).trans rfl)
    exact r_iret X I (e_i (h9).symm rfl rfl) dX11_count_87
  rcases Classical.em (x1 = 1) with c_2 | c_2
  · skip
    refine lv_tableIn (off := 87) (tgt := 88) X.1 X.2.1 dX11_count_1 (by rw [c_2]; decide) (by rw [c_2]; decide) (by rw [c_2]; decide) (by decide) ?_
    refine lv_aload_n X.1 X.2.1 dX11_count_88 rfl (lv_at hl 0 rfl) ?_
    refine g11_3 X I (k := 0) (by decide) rfl lf_X11_35 dX11_count_89 ?_
    refine r_ei I (r_runV X I pk_X8_bearers (c8_bearers l G (k := 10) ⟨by decide, rfl, rfl, rfl⟩ _ _) lm_X11_194 (by decide) (cl_8 rfl) rfl rfl rfl hl.1 rfl (Nat.le_of_ble_eq_true rfl) dX11_count_92 ⟨Nat.le_of_ble_eq_true rfl, Nat.le_of_ble_eq_true rfl⟩ ⟨Nat.le_refl 0, Nat.le_refl 0⟩) (fun H locs I => ?_)
    have h9 := hE.trans ((if_neg c_1).trans ((if_pos c_2).trans rfl))
    exact r_iret X I (e_i (h9).symm rfl rfl) dX11_count_95
  rcases Classical.em (x1 = 2) with c_3 | c_3
  · skip
    refine lv_tableIn (off := 95) (tgt := 96) X.1 X.2.1 dX11_count_1 (by rw [c_3]; decide) (by rw [c_3]; decide) (by rw [c_3]; decide) (by decide) ?_
    refine lv_aload_n X.1 X.2.1 dX11_count_96 rfl (lv_at hl 0 rfl) ?_
    refine g11_4 X I (k := 0) (by decide) rfl lf_X11_42 dX11_count_97 ?_
    refine r_ei I (r_runV X I pk_X2_number (c2_number l G _ _) lm_X11_125 (by decide) (cl_2 rfl) rfl rfl rfl hl.1 rfl (Nat.le_of_ble_eq_true rfl) dX11_count_100 ⟨Nat.le_of_ble_eq_true rfl, Nat.le_of_ble_eq_true rfl⟩ ⟨Nat.le_refl 0, Nat.le_refl 0⟩) (fun H locs I => ?_)
    have h9 := hE.trans ((if_neg c_1).trans ((if_neg c_2).trans ((if_pos c_3).trans rfl)))
    exact r_iret X I (e_i (h9).symm rfl rfl) dX11_count_103
  rcases Classical.em (x1 = 3) with c_4 | c_4
  · skip
    refine lv_tableIn (off := 103) (tgt := 104) X.1 X.2.1 dX11_count_1 (by rw [c_4]; decide) (by rw [c_4]; decide) (by rw [c_4]; decide) (by decide) ?_
    refine lv_aload_n X.1 X.2.1 dX11_count_104 rfl (lv_at hl 0 rfl) ?_
    refine g11_0 X I (k := 0) (by decide) rfl lf_X11_12 dX11_count_105 ?_
    refine r_ei I (r_runV X I pk_X7_size (c7_size l G _ _) lm_X11_104 (by decide) (cl_7 rfl) rfl rfl rfl hl.1 rfl (Nat.le_of_ble_eq_true rfl) dX11_count_108 ⟨Nat.le_of_ble_eq_true rfl, Nat.le_of_ble_eq_true rfl⟩ ⟨Nat.le_refl 0, Nat.le_refl 0⟩) (fun H locs I => ?_)
    have h9 := hE.trans ((if_neg c_1).trans ((if_neg c_2).trans ((if_neg c_3).trans ((if_pos c_4).trans rfl))))
    exact r_iret X I (e_i (h9).symm rfl rfl) dX11_count_111
  rcases Classical.em (x1 = 4) with c_5 | c_5
  · skip
    refine lv_tableIn (off := 111) (tgt := 112) X.1 X.2.1 dX11_count_1 (by rw [c_5]; decide) (by rw [c_5]; decide) (by rw [c_5]; decide) (by decide) ?_
    refine lv_aload_n X.1 X.2.1 dX11_count_112 rfl (lv_at hl 0 rfl) ?_
    refine g11_4 X I (k := 0) (by decide) rfl lf_X11_42 dX11_count_113 ?_
    refine r_ei I (r_runV X I pk_X2_holding (c2_holding l G _ _) lm_X11_469 (by decide) (cl_2 rfl) rfl rfl rfl hl.1 rfl (Nat.le_of_ble_eq_true rfl) dX11_count_116 ⟨Nat.le_of_ble_eq_true rfl, Nat.le_of_ble_eq_true rfl⟩ ⟨Nat.le_refl 0, Nat.le_refl 0⟩) (fun H locs I => ?_)
    have h9 := hE.trans ((if_neg c_1).trans ((if_neg c_2).trans ((if_neg c_3).trans ((if_neg c_4).trans ((if_pos c_5).trans rfl)))))
    exact r_iret X I (e_i (h9).symm rfl rfl) dX11_count_119
  rcases Classical.em (x1 = 11) with c_6 | c_6
  · skip
    refine lv_tableIn (off := 119) (tgt := 120) X.1 X.2.1 dX11_count_1 (by rw [c_6]; decide) (by rw [c_6]; decide) (by rw [c_6]; decide) (by decide) ?_
    refine lv_aload_n X.1 X.2.1 dX11_count_120 rfl (lv_at hl 0 rfl) ?_
    refine g11_14 X I (k := 0) (by decide) rfl lf_X11_96 dX11_count_121 ?_
    have h9 := hE.trans ((if_neg c_1).trans ((if_neg c_2).trans ((if_neg c_3).trans ((if_neg c_4).trans ((if_neg c_5).trans ((if_pos c_6).trans rfl))))))
    exact r_iret X I (e_i (h9).symm rfl rfl) dX11_count_124
  rcases Classical.em (x1 = 12) with c_7 | c_7
  · skip
    refine lv_tableIn (off := 124) (tgt := 125) X.1 X.2.1 dX11_count_1 (by rw [c_7]; decide) (by rw [c_7]; decide) (by rw [c_7]; decide) (by decide) ?_
    refine lv_aload_n X.1 X.2.1 dX11_count_125 rfl (lv_at hl 0 rfl) ?_
    refine g11_8 X I (k := 0) (by decide) rfl lf_X11_72 dX11_count_126 ?_
    refine r_ei I (r_runV X I pk_X10_stoods (c10_stoods l G _ _) lm_X11_364 (by decide) (cl_10 rfl) rfl rfl rfl hl.1 rfl (Nat.le_of_ble_eq_true rfl) dX11_count_129 ⟨Nat.le_of_ble_eq_true rfl, Nat.le_of_ble_eq_true rfl⟩ ⟨Nat.le_refl 0, Nat.le_refl 0⟩) (fun H locs I => ?_)
    have h9 := hE.trans ((if_neg c_1).trans ((if_neg c_2).trans ((if_neg c_3).trans ((if_neg c_4).trans ((if_neg c_5).trans ((if_neg c_6).trans ((if_pos c_7).trans rfl)))))))
    exact r_iret X I (e_i (h9).symm rfl rfl) dX11_count_132
  rcases Classical.em (x1 = 13) with c_8 | c_8
  · skip
    refine lv_tableIn (off := 132) (tgt := 133) X.1 X.2.1 dX11_count_1 (by rw [c_8]; decide) (by rw [c_8]; decide) (by rw [c_8]; decide) (by decide) ?_
    refine lv_aload_n X.1 X.2.1 dX11_count_133 rfl (lv_at hl 0 rfl) ?_
    refine g11_8 X I (k := 0) (by decide) rfl lf_X11_72 dX11_count_134 ?_
    refine r_ei I (r_runV X I pk_X10_seens (c10_seens l G _ _) lm_X11_423 (by decide) (cl_10 rfl) rfl rfl rfl hl.1 rfl (Nat.le_of_ble_eq_true rfl) dX11_count_137 ⟨Nat.le_of_ble_eq_true rfl, Nat.le_of_ble_eq_true rfl⟩ ⟨Nat.le_refl 0, Nat.le_refl 0⟩) (fun H locs I => ?_)
    have h9 := hE.trans ((if_neg c_1).trans ((if_neg c_2).trans ((if_neg c_3).trans ((if_neg c_4).trans ((if_neg c_5).trans ((if_neg c_6).trans ((if_neg c_7).trans ((if_pos c_8).trans rfl))))))))
    exact r_iret X I (e_i (h9).symm rfl rfl) dX11_count_140
  rcases Classical.em (x1 = 15) with c_9 | c_9
  · skip
    refine lv_tableIn (off := 140) (tgt := 141) X.1 X.2.1 dX11_count_1 (by rw [c_9]; decide) (by rw [c_9]; decide) (by rw [c_9]; decide) (by decide) ?_
    refine lv_aload_n X.1 X.2.1 dX11_count_141 rfl (lv_at hl 0 rfl) ?_
    refine g11_6 X I (k := 0) (by decide) rfl lf_X11_56 dX11_count_142 ?_
    refine r_ei I (r_runV X I pk_X5_kept (c5_kept l G _ _) lm_X11_307 (by decide) (cl_5 rfl) rfl rfl rfl hl.1 rfl (Nat.le_of_ble_eq_true rfl) dX11_count_145 ⟨Nat.le_of_ble_eq_true rfl, Nat.le_of_ble_eq_true rfl⟩ ⟨Nat.le_refl 0, Nat.le_refl 0⟩) (fun H locs I => ?_)
    have h9 := hE.trans ((if_neg c_1).trans ((if_neg c_2).trans ((if_neg c_3).trans ((if_neg c_4).trans ((if_neg c_5).trans ((if_neg c_6).trans ((if_neg c_7).trans ((if_neg c_8).trans ((if_pos c_9).trans rfl)))))))))
    exact r_iret X I (e_i (h9).symm rfl rfl) dX11_count_148
  refine lv_tableD (L := [0, 1, 2, 3, 4, 11, 12, 13, 15]) (tgt := 149) X.1 X.2.1 dX11_count_1 (by decide) (List.forall_mem_cons.mpr ⟨c_1, (List.forall_mem_cons.mpr ⟨c_2, (List.forall_mem_cons.mpr ⟨c_3, (List.forall_mem_cons.mpr ⟨c_4, (List.forall_mem_cons.mpr ⟨c_5, (List.forall_mem_cons.mpr ⟨c_6, (List.forall_mem_cons.mpr ⟨c_7, (List.forall_mem_cons.mpr ⟨c_8, (List.forall_mem_cons.mpr ⟨c_9, (fun _ h => absurd h List.not_mem_nil)⟩)⟩)⟩)⟩)⟩)⟩)⟩)⟩)⟩) (by decide) ?_
  refine lv_aload_n X.1 X.2.1 dX11_count_149 rfl (lv_at hl 0 rfl) ?_
  refine lv_iload_n X.1 X.2.1 dX11_count_150 rfl (lv_at hl 1 rfl) ?_
  refine r_ei I (r_runV X I pk_X11_countNow (c11_countNow l G _ _ _) lm_X11_472 (by decide) (cl_11 rfl) rfl rfl rfl hl.1 rfl (Nat.le_of_ble_eq_true rfl) dX11_count_151 ⟨Nat.le_of_ble_eq_true rfl, Nat.le_of_ble_eq_true rfl⟩ ⟨Nat.le_refl 0, Nat.le_refl 0⟩) (fun H locs I => ?_)
  have h9 := hE.trans ((if_neg c_1).trans ((if_neg c_2).trans ((if_neg c_3).trans ((if_neg c_4).trans ((if_neg c_5).trans ((if_neg c_6).trans ((if_neg c_7).trans ((if_neg c_8).trans ((if_neg c_9).trans rfl)))))))))
  exact r_iret X I (e_i (h9).symm rfl rfl) dX11_count_154
