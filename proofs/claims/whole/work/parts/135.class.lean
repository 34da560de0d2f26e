noncomputable def f11_most (σ : SI) (x1 : Int32) : Int32 := if (f8_isTold 10 σ) = true then (if x1 = 0 then (f11_hardest σ) else (if x1 = 1 then (f11_nearest σ) else (if x1 = 2 then (f11_farthest σ) else (if x1 = 3 then (f11_content σ) else (if x1 = 4 then ((f8_timeThereIs 10 σ) - (σ 24 2)) else (if x1 = 5 then ((f8_strength 10 σ) - (σ 24 3)) else (if x1 = 6 then (σ 24 5) else (if x1 = 7 then (f8_distance 10 σ (σ 24 4) (-1 : Int32)) else (-1 : Int32))))))))) else (-1 : Int32)
set_option maxHeartbeats 4000000 in
set_option maxRecDepth 100000 in
theorem c11_most (l : Launch) (G : GT) (σ : SI) (τ : SL) (x1 : Int32) : Mc l yX11_most cX11_most 2 (some .int) 5 G [.ref (G.2.1 0), .int x1] σ τ (Qi G (Ei (f11_most σ x1) σ τ)) := by
  refine m_start (by decide +kernel) (Nat.le_of_ble_eq_true rfl) rfl (fun p e s m args below meth c ls X I hl => ?_)
  have hl : lv_has ls 2 [(0, .ref (G.2.1 0)), (1, .int x1)] := hl
  obtain ⟨E, hE⟩ : ∃ E, E = (f11_most σ x1) := ⟨_, rfl⟩
  rw [← hE]
  refine lv_aload_n X.1 X.2.1 dX11_most_0 rfl (lv_at hl 0 rfl) ?_
  refine g11_3 X I (k := 0) (by decide) rfl lf_X11_35 dX11_most_1 ?_
  refine r_ei I (r_runV X I pk_X8_isTold (c8_isTold l G (k := 10) ⟨by decide, rfl, rfl, rfl⟩ _ _) lm_X11_154 (by decide) (cl_8 rfl) rfl rfl rfl hl.1 rfl (Nat.le_of_ble_eq_true rfl) dX11_most_4 ⟨Nat.le_of_ble_eq_true rfl, Nat.le_of_ble_eq_true rfl⟩ ⟨Nat.le_refl 0, Nat.le_refl 0⟩) (fun H locs I => ?_)
  refine lv_if_ne (tgt := 12) X.1 X.2.1 dX11_most_7 (by decide) (fun c_1 => ?_) (fun c_1 => ?_)
  · skip
    have hE := ite_t hE (b2i_y c_1)
    refine lv_iload_n X.1 X.2.1 dX11_most_12 rfl (lv_at hl 1 rfl) ?_
    rcases Classical.em (x1 = 0) with c_2 | c_2
    · skip
      have hE := ite_t hE c_2
      refine lv_tableIn (off := 47) (tgt := 60) X.1 X.2.1 dX11_most_13 (by rw [c_2]; decide) (by rw [c_2]; decide) (by rw [c_2]; decide) (by decide) ?_
      refine lv_aload_n X.1 X.2.1 dX11_most_60 rfl (lv_at hl 0 rfl) ?_
      refine r_ei I (r_runV X I pk_X11_hardest (c11_hardest l G _ _) lm_X11_449 (by decide) (cl_11 rfl) rfl rfl rfl hl.1 rfl (Nat.le_of_ble_eq_true rfl) dX11_most_61 ⟨Nat.le_of_ble_eq_true rfl, Nat.le_of_ble_eq_true rfl⟩ ⟨Nat.le_refl 0, Nat.le_refl 0⟩) (fun H locs I => ?_)
      have h9 := hE
      exact r_iret X I (e_i h9.symm rfl rfl) dX11_most_64
    have hE := ite_f hE c_2
    rcases Classical.em (x1 = 1) with c_3 | c_3
    · skip
      have hE := ite_t hE c_3
      refine lv_tableIn (off := 52) (tgt := 65) X.1 X.2.1 dX11_most_13 (by rw [c_3]; decide) (by rw [c_3]; decide) (by rw [c_3]; decide) (by decide) ?_
      refine lv_aload_n X.1 X.2.1 dX11_most_65 rfl (lv_at hl 0 rfl) ?_
      refine r_ei I (r_runV X I pk_X11_nearest (c11_nearest l G _ _) lm_X11_452 (by decide) (cl_11 rfl) rfl rfl rfl hl.1 rfl (Nat.le_of_ble_eq_true rfl) dX11_most_66 ⟨Nat.le_of_ble_eq_true rfl, Nat.le_of_ble_eq_true rfl⟩ ⟨Nat.le_refl 0, Nat.le_refl 0⟩) (fun H locs I => ?_)
      have h9 := hE
      exact r_iret X I (e_i h9.symm rfl rfl) dX11_most_69
    have hE := ite_f hE c_3
    rcases Classical.em (x1 = 2) with c_4 | c_4
    · skip
      have hE := ite_t hE c_4
      refine lv_tableIn (off := 57) (tgt := 70) X.1 X.2.1 dX11_most_13 (by rw [c_4]; decide) (by rw [c_4]; decide) (by rw [c_4]; decide) (by decide) ?_
      refine lv_aload_n X.1 X.2.1 dX11_most_70 rfl (lv_at hl 0 rfl) ?_
      refine r_ei I (r_runV X I pk_X11_farthest (c11_farthest l G _ _) lm_X11_455 (by decide) (cl_11 rfl) rfl rfl rfl hl.1 rfl (Nat.le_of_ble_eq_true rfl) dX11_most_71 ⟨Nat.le_of_ble_eq_true rfl, Nat.le_of_ble_eq_true rfl⟩ ⟨Nat.le_refl 0, Nat.le_refl 0⟩) (fun H locs I => ?_)
      have h9 := hE
      exact r_iret X I (e_i h9.symm rfl rfl) dX11_most_74
    have hE := ite_f hE c_4
    rcases Classical.em (x1 = 3) with c_5 | c_5
    · skip
      have hE := ite_t hE c_5
      refine lv_tableIn (off := 62) (tgt := 75) X.1 X.2.1 dX11_most_13 (by rw [c_5]; decide) (by rw [c_5]; decide) (by rw [c_5]; decide) (by decide) ?_
      refine lv_aload_n X.1 X.2.1 dX11_most_75 rfl (lv_at hl 0 rfl) ?_
      refine r_ei I (r_runV X I pk_X11_content (c11_content l G _ _) lm_X11_458 (by decide) (cl_11 rfl) rfl rfl rfl hl.1 rfl (Nat.le_of_ble_eq_true rfl) dX11_most_76 ⟨Nat.le_of_ble_eq_true rfl, Nat.le_of_ble_eq_true rfl⟩ ⟨Nat.le_refl 0, Nat.le_refl 0⟩) (fun H locs I => ?_)
      have h9 := hE
      exact r_iret X I (e_i h9.symm rfl rfl) dX11_most_79
    have hE := ite_f hE c_5
    rcases Classical.em (x1 = 4) with c_6 | c_6
    · skip
      have hE := ite_t hE c_6
      refine lv_tableIn (off := 67) (tgt := 80) X.1 X.2.1 dX11_most_13 (by rw [c_6]; decide) (by rw [c_6]; decide) (by rw [c_6]; decide) (by decide) ?_
      refine lv_aload_n X.1 X.2.1 dX11_most_80 rfl (lv_at hl 0 rfl) ?_
      refine g11_3 X I (k := 0) (by decide) rfl lf_X11_35 dX11_most_81 ?_
      refine r_ei I (r_runV X I pk_X8_timeThereIs (c8_timeThereIs l G (k := 10) ⟨by decide, rfl, rfl, rfl⟩ _ _) lm_X11_157 (by decide) (cl_8 rfl) rfl rfl rfl hl.1 rfl (Nat.le_of_ble_eq_true rfl) dX11_most_84 ⟨Nat.le_of_ble_eq_true rfl, Nat.le_of_ble_eq_true rfl⟩ ⟨Nat.le_refl 0, Nat.le_refl 0⟩) (fun H locs I => ?_)
      refine lv_aload_n X.1 X.2.1 dX11_most_87 rfl (lv_at hl 0 rfl) ?_
      refine g11_5 X I (k := 0) (by decide) rfl lf_X11_49 dX11_most_88 ?_
      refine g0_2 X I (k := 24) (by decide) rfl lf_X11_213 dX11_most_91 ?_
      refine lv_isub X.1 X.2.1 dX11_most_94 ?_
      have h9 := hE
      exact r_iret X I (e_i h9.symm rfl rfl) dX11_most_95
    have hE := ite_f hE c_6
    rcases Classical.em (x1 = 5) with c_7 | c_7
    · skip
      have hE := ite_t hE c_7
      refine lv_tableIn (off := 83) (tgt := 96) X.1 X.2.1 dX11_most_13 (by rw [c_7]; decide) (by rw [c_7]; decide) (by rw [c_7]; decide) (by decide) ?_
      refine lv_aload_n X.1 X.2.1 dX11_most_96 rfl (lv_at hl 0 rfl) ?_
      refine g11_3 X I (k := 0) (by decide) rfl lf_X11_35 dX11_most_97 ?_
      refine r_ei I (r_runV X I pk_X8_strength (c8_strength l G (k := 10) ⟨by decide, rfl, rfl, rfl⟩ _ _) lm_X11_166 (by decide) (cl_8 rfl) rfl rfl rfl hl.1 rfl (Nat.le_of_ble_eq_true rfl) dX11_most_100 ⟨Nat.le_of_ble_eq_true rfl, Nat.le_of_ble_eq_true rfl⟩ ⟨Nat.le_refl 0, Nat.le_refl 0⟩) (fun H locs I => ?_)
      refine lv_aload_n X.1 X.2.1 dX11_most_103 rfl (lv_at hl 0 rfl) ?_
      refine g11_5 X I (k := 0) (by decide) rfl lf_X11_49 dX11_most_104 ?_
      refine g0_3 X I (k := 24) (by decide) rfl lf_X11_249 dX11_most_107 ?_
      refine lv_isub X.1 X.2.1 dX11_most_110 ?_
      have h9 := hE
      exact r_iret X I (e_i h9.symm rfl rfl) dX11_most_111
    have hE := ite_f hE c_7
    rcases Classical.em (x1 = 6) with c_8 | c_8
    · skip
      have hE := ite_t hE c_8
      refine lv_tableIn (off := 99) (tgt := 112) X.1 X.2.1 dX11_most_13 (by rw [c_8]; decide) (by rw [c_8]; decide) (by rw [c_8]; decide) (by decide) ?_
      refine lv_aload_n X.1 X.2.1 dX11_most_112 rfl (lv_at hl 0 rfl) ?_
      refine g11_5 X I (k := 0) (by decide) rfl lf_X11_49 dX11_most_113 ?_
      refine g0_5 X I (k := 24) (by decide) rfl lf_X11_254 dX11_most_116 ?_
      have h9 := hE
      exact r_iret X I (e_i h9.symm rfl rfl) dX11_most_119
    have hE := ite_f hE c_8
    rcases Classical.em (x1 = 7) with c_9 | c_9
    · skip
      have hE := ite_t hE c_9
      refine lv_tableIn (off := 107) (tgt := 120) X.1 X.2.1 dX11_most_13 (by rw [c_9]; decide) (by rw [c_9]; decide) (by rw [c_9]; decide) (by decide) ?_
      refine lv_aload_n X.1 X.2.1 dX11_most_120 rfl (lv_at hl 0 rfl) ?_
      refine g11_3 X I (k := 0) (by decide) rfl lf_X11_35 dX11_most_121 ?_
      refine lv_aload_n X.1 X.2.1 dX11_most_124 rfl (lv_at hl 0 rfl) ?_
      refine g11_5 X I (k := 0) (by decide) rfl lf_X11_49 dX11_most_125 ?_
      refine g0_4 X I (k := 24) (by decide) rfl lf_X11_210 dX11_most_128 ?_
      refine lv_iconst (v := (-1)) X.1 X.2.1 dX11_most_131 (by decide) ?_
      refine r_ei I (r_runV X I pk_X8_distance (c8_distance l G (k := 10) ⟨by decide, rfl, rfl, rfl⟩ _ _ _ _) lm_X11_203 (by decide) (cl_8 rfl) rfl rfl rfl hl.1 rfl (Nat.le_of_ble_eq_true rfl) dX11_most_132 ⟨Nat.le_of_ble_eq_true rfl, Nat.le_of_ble_eq_true rfl⟩ ⟨Nat.le_refl 0, Nat.le_refl 0⟩) (fun H locs I => ?_)
      have h9 := hE
      exact r_iret X I (e_i h9.symm rfl rfl) dX11_most_135
    have hE := ite_f hE c_9
    refine lv_tableD (L := [0, 1, 2, 3, 4, 5, 6, 7]) (tgt := 136) X.1 X.2.1 dX11_most_13 (by decide) (List.forall_mem_cons.mpr ⟨c_2, (List.forall_mem_cons.mpr ⟨c_3, (List.forall_mem_cons.mpr ⟨c_4, (List.forall_mem_cons.mpr ⟨c_5, (List.forall_mem_cons.mpr ⟨c_6, (List.forall_mem_cons.mpr ⟨c_7, (List.forall_mem_cons.mpr ⟨c_8, (List.forall_mem_cons.mpr ⟨c_9, (fun _ h => absurd h List.not_mem_nil)⟩)⟩)⟩)⟩)⟩)⟩)⟩)⟩) (by decide) ?_
    refine lv_iconst (v := (-1)) X.1 X.2.1 dX11_most_136 (by decide) ?_
    have h9 := hE
    exact r_iret X I (e_i h9.symm rfl rfl) dX11_most_137
  · skip
    have hE := ite_f hE (b2i_n c_1)
    refine lv_iconst (v := (-1)) X.1 X.2.1 dX11_most_10 (by decide) ?_
    have h9 := hE
    exact r_iret X I (e_i h9.symm rfl rfl) dX11_most_11
noncomputable def f11_years_c26 (σ : SI) (x1 : Int32) : Nat → Int32 → Int32
  | 0, _ => 0
  | fu + 1, v2 => if (60 : Int32) < v2 then (-1 : Int32) else (if (f11_grievancesIn σ v2) < x1 then (f11_years_c26 σ x1 fu (v2 + 1)) else v2)
noncomputable def f11_years (σ : SI) (x1 : Int32) : Int32 := if (f8_isTold 10 σ) = true then (if x1 < (1 : Int32) then (-1 : Int32) else (if x1 ≤ (200 : Int32) then (f11_years_c26 σ x1 (fu1 ((Int32.toInt (60 : Int32) + 1 - Int32.toInt (0 : Int32)).toNat)) (0 : Int32)) else (-1 : Int32))) else (-1 : Int32)
set_option maxHeartbeats 4000000 in
set_option maxRecDepth 100000 in
theorem c11_years_c26 {l : Launch} {p : Program} {e : Env} {s : State} {m : MethodId} {args : Array Value} {below : List Frame} {meth : Method} {c : Code} {G : GT} (X : CX p s m args meth c cX11_years RX11 3 (some .int) G) {E : Int32} (σ : SI) (τ : SL) (x1 : Int32) : ∀ (fu : Nat) (v2 : Int32) (H : Heap) (locs : List Loc) (ls : Array Slot), IX G s H locs σ τ → lv_has ls 3 [(0, .ref (G.2.1 0)), (1, .int x1), (2, .int v2)] → (Int32.toInt (60 : Int32) + 1 - Int32.toInt v2).toNat < fu → E = (f11_years_c26 σ x1 fu v2) → W p l e (rmN 4) s m args below meth c H locs 0 0 (MQ below ((Qi G (Ei E σ τ)) s.heap.size) args s 0 0 (AW G s.heap.size)) (F0 m 26 ls []) := by
  intro fu
  induction fu with
  | zero =>
    intro v2 H locs ls I hl  hm hE
    exact absurd hm (Nat.not_lt_zero _)
  | succ fu ih =>
    intro v2 H locs ls I hl  hm hE
    refine lv_iload_n X.1 X.2.1 dX11_years_26 rfl (lv_at hl 2 rfl) ?_
    refine lv_bipush (v := 60) X.1 X.2.1 dX11_years_27 (by decide) ?_
    refine lv_icmp_gt (tgt := 49) X.1 X.2.1 dX11_years_29 (by decide) (fun c_4 => ?_) (fun c_4 => ?_)
    · skip
      have hE := ite_t hE c_4
      refine lv_iconst (v := (-1)) X.1 X.2.1 dX11_years_49 (by decide) ?_
      have h9 := hE
      exact r_iret X I (e_i h9.symm rfl rfl) dX11_years_50
    · skip
      have hE := ite_f hE c_4
      refine lv_aload_n X.1 X.2.1 dX11_years_32 rfl (lv_at hl 0 rfl) ?_
      refine lv_iload_n X.1 X.2.1 dX11_years_33 rfl (lv_at hl 2 rfl) ?_
      refine r_ei I (r_runV X I pk_X11_grievancesIn (c11_grievancesIn l G _ _ _) lm_X11_446 (by decide) (cl_11 rfl) rfl rfl rfl hl.1 rfl (Nat.le_of_ble_eq_true rfl) dX11_years_34 ⟨Nat.le_of_ble_eq_true rfl, Nat.le_of_ble_eq_true rfl⟩ ⟨Nat.le_refl 0, Nat.le_refl 0⟩) (fun H locs I => ?_)
      refine lv_iload_n X.1 X.2.1 dX11_years_37 rfl (lv_at hl 1 rfl) ?_
      refine lv_icmp_lt (tgt := 43) X.1 X.2.1 dX11_years_38 (by decide) (fun c_5 => ?_) (fun c_5 => ?_)
      · skip
        have hE := ite_t hE c_5
        refine lv_iinc (v := _ + 1) (lv' := [(2, .int _), (0, .ref _), (1, .int _)]) X.1 X.2.1 dX11_years_43 hl (k := 2) rfl rfl (by decide) rfl (fun ls hl => ?_)
        refine lv_goto (tgt := 26) X.1 X.2.1 dX11_years_46 (by decide) ?_
        exact ih _ _ _ _ I (lv_sub hl [1, 2, 0] rfl) (Nat.lt_of_lt_of_le (up_decE (by decide) c_4) (Nat.le_of_lt_succ hm)) (hE.trans (rfl))
      · skip
        have hE := ite_f hE c_5
        refine lv_iload_n X.1 X.2.1 dX11_years_41 rfl (lv_at hl 2 rfl) ?_
        have h9 := hE
        exact r_iret X I (e_i h9.symm rfl rfl) dX11_years_42
set_option maxHeartbeats 4000000 in
set_option maxRecDepth 100000 in
theorem c11_years (l : Launch) (G : GT) (σ : SI) (τ : SL) (x1 : Int32) : Mc l yX11_years cX11_years 3 (some .int) 4 G [.ref (G.2.1 0), .int x1] σ τ (Qi G (Ei (f11_years σ x1) σ τ)) := by
  refine m_start (by decide +kernel) (Nat.le_of_ble_eq_true rfl) rfl (fun p e s m args below meth c ls X I hl => ?_)
  have hl : lv_has ls 3 [(0, .ref (G.2.1 0)), (1, .int x1)] := hl
  obtain ⟨E, hE⟩ : ∃ E, E = (f11_years σ x1) := ⟨_, rfl⟩
  rw [← hE]
  refine lv_aload_n X.1 X.2.1 dX11_years_0 rfl (lv_at hl 0 rfl) ?_
  refine g11_3 X I (k := 0) (by decide) rfl lf_X11_35 dX11_years_1 ?_
  refine r_ei I (r_runV X I pk_X8_isTold (c8_isTold l G (k := 10) ⟨by decide, rfl, rfl, rfl⟩ _ _) lm_X11_154 (by decide) (cl_8 rfl) rfl rfl rfl hl.1 rfl (Nat.le_of_ble_eq_true rfl) dX11_years_4 ⟨Nat.le_of_ble_eq_true rfl, Nat.le_of_ble_eq_true rfl⟩ ⟨Nat.le_refl 0, Nat.le_refl 0⟩) (fun H locs I => ?_)
  refine lv_if_eq (tgt := 22) X.1 X.2.1 dX11_years_7 (by decide) (fun c_1 => ?_) (fun c_1 => ?_)
  · skip
    have hE := ite_f hE (b2i_n c_1)
    refine lv_iconst (v := (-1)) X.1 X.2.1 dX11_years_22 (by decide) ?_
    have h9 := hE
    exact r_iret X I (e_i h9.symm rfl rfl) dX11_years_23
  · skip
    have hE := ite_t hE (b2i_y c_1)
    refine lv_iload_n X.1 X.2.1 dX11_years_10 rfl (lv_at hl 1 rfl) ?_
    refine lv_iconst (v := 1) X.1 X.2.1 dX11_years_11 (by decide) ?_
    refine lv_icmp_lt (tgt := 22) X.1 X.2.1 dX11_years_12 (by decide) (fun c_2 => ?_) (fun c_2 => ?_)
    · skip
      have hE := ite_t hE c_2
      refine lv_iconst (v := (-1)) X.1 X.2.1 dX11_years_22 (by decide) ?_
      have h9 := hE
      exact r_iret X I (e_i h9.symm rfl rfl) dX11_years_23
    · skip
      have hE := ite_f hE c_2
      refine lv_iload_n X.1 X.2.1 dX11_years_15 rfl (lv_at hl 1 rfl) ?_
      refine lv_sipush (v := 200) X.1 X.2.1 dX11_years_16 (by decide) ?_
      refine lv_icmp_le (tgt := 24) X.1 X.2.1 dX11_years_19 (by decide) (fun c_3 => ?_) (fun c_3 => ?_)
      · skip
        have hE := ite_t hE c_3
        refine lv_iconst (v := 0) X.1 X.2.1 dX11_years_24 (by decide) ?_
        refine lv_istore_n (lv' := [(2, .int _), (0, .ref _), (1, .int _)]) X.1 X.2.1 dX11_years_25 rfl hl (by decide) rfl (fun ls hl => ?_)
        exact c11_years_c26 X _ _ _ _ _ _ _ _ I (lv_sub hl [1, 2, 0] rfl) (fu1_lt _) (hE.trans (rfl))
      · skip
        have hE := ite_f hE c_3
        refine lv_iconst (v := (-1)) X.1 X.2.1 dX11_years_22 (by decide) ?_
        have h9 := hE
        exact r_iret X I (e_i h9.symm rfl rfl) dX11_years_23
noncomputable def f11_waits_c26 (x1 : Int32) : Nat → Int32 → Int32 → SI → (Int32 × SI)
  | 0, _, _, σ => (0, σ)
  | fu + 1, v2, v3, σ => if (f8_houses 10 σ) ≤ v3 then (v2, σ) else (if (f0_wasAt 24 σ v3) = true then (f11_waits_c26 x1 fu v2 (v3 + 1) σ) else (let r0 := (f11_standsNow σ v3 (f0_grievanceOf 24 σ v3)); if r0.1 < x1 then (f11_waits_c26 x1 fu v2 (v3 + 1) r0.2) else (f11_waits_c26 x1 fu (v2 ||| ((1 : Int32) <<< (v3 &&& 31))) (v3 + 1) r0.2)))
noncomputable def f11_waits (σ : SI) (x1 : Int32) : Int32 × SI := if (f8_isTold 10 σ) = true then (if x1 < (0 : Int32) then ((-1 : Int32), σ) else (if x1 ≤ (60 : Int32) then (f11_waits_c26 x1 (fu1 ((Int32.toInt (f8_houses 10 σ) - Int32.toInt (0 : Int32)).toNat)) (0 : Int32) (0 : Int32) σ) else ((-1 : Int32), σ))) else ((-1 : Int32), σ)
theorem w_f11_waits_c26 (x1 : Int32) (a : Nat) (h0 : a ≠ 13) (h1 : a ≠ 15) : ∀ (fu : Nat) (v2 : Int32) (v3 : Int32) (σ : SI), (f11_waits_c26 x1 fu v2 v3 σ).2 a = σ a := by
  intro fu
  induction fu with
  | zero => intro v2 v3 σ; exact rfl
  | succ fu ih =>
    intro v2 v3 σ
    refine fp_to2 ?_
    unfold f11_waits_c26
    exact (fr_ite2 (fr_mk21 rfl) (fr_ite2 (fp_of2 ((ih _ _ _))) (fr_ite2 (fp_of2 (((ih _ _ _).trans (w_f11_standsNow _ _ _ a h0 h1)))) (fp_of2 (((ih _ _ _).trans (w_f11_standsNow _ _ _ a h0 h1)))))))
theorem w_f11_waits (σ : SI) (x1 : Int32) (a : Nat) (h0 : a ≠ 13) (h1 : a ≠ 15) : (f11_waits σ x1).2 a = σ a := by
  refine fp_to2 ?_
  unfold f11_waits
  exact (fr_ite2 (fr_ite2 (fr_mk21 rfl) (fr_ite2 (fp_of2 ((w_f11_waits_c26 _ a h0 h1 _ _ _ _))) (fr_mk21 rfl))) (fr_mk21 rfl))
set_option maxHeartbeats 4000000 in
set_option maxRecDepth 100000 in
theorem c11_waits_c26 {l : Launch} {p : Program} {e : Env} {s : State} {m : MethodId} {args : Array Value} {below : List Frame} {meth : Method} {c : Code} {G : GT} (X : CX p s m args meth c cX11_waits RX11 4 (some .int) G) {E : Int32 × SI} (τ : SL) (x1 : Int32) : ∀ (fu : Nat) (v2 : Int32) (v3 : Int32) (σ : SI) (H : Heap) (locs : List Loc) (ls : Array Slot), IX G s H locs σ τ → lv_has ls 4 [(0, .ref (G.2.1 0)), (1, .int x1), (2, .int v2), (3, .int v3)] → (Int32.toInt (f8_houses 10 σ) - Int32.toInt v3).toNat < fu → E = (f11_waits_c26 x1 fu v2 v3 σ) → W p l e (rmN 5) s m args below meth c H locs 0 0 (MQ below ((Qi G (Ei E.1 E.2 τ)) s.heap.size) args s 0 0 (AW G s.heap.size)) (F0 m 26 ls []) := by
  intro fu
  induction fu with
  | zero =>
    intro v2 v3 σ H locs ls I hl  hm hE
    exact absurd hm (Nat.not_lt_zero _)
  | succ fu ih =>
    intro v2 v3 σ H locs ls I hl  hm hE
    refine lv_iload_n X.1 X.2.1 dX11_waits_26 rfl (lv_at hl 3 rfl) ?_
    refine lv_aload_n X.1 X.2.1 dX11_waits_27 rfl (lv_at hl 0 rfl) ?_
    refine g11_3 X I (k := 0) (by decide) rfl lf_X11_35 dX11_waits_28 ?_
    refine r_ei I (r_runV X I pk_X8_houses (c8_houses l G (k := 10) ⟨by decide, rfl, rfl, rfl⟩ _ _) lm_X11_151 (by decide) (cl_8 rfl) rfl rfl rfl hl.1 rfl (Nat.le_of_ble_eq_true rfl) dX11_waits_31 ⟨Nat.le_of_ble_eq_true rfl, Nat.le_of_ble_eq_true rfl⟩ ⟨Nat.le_refl 0, Nat.le_refl 0⟩) (fun H locs I => ?_)
    refine lv_icmp_ge (tgt := 77) X.1 X.2.1 dX11_waits_34 (by decide) (fun c_4 => ?_) (fun c_4 => ?_)
    · skip
      have hE := ite_t hE c_4
      refine lv_iload_n X.1 X.2.1 dX11_waits_77 rfl (lv_at hl 2 rfl) ?_
      have h9 := hE
      exact r_iret X I (e_i (pr_fst h9) (pr_snd h9) rfl) dX11_waits_78
    · skip
      have hE := ite_f hE c_4
      refine lv_aload_n X.1 X.2.1 dX11_waits_37 rfl (lv_at hl 0 rfl) ?_
      refine g11_5 X I (k := 0) (by decide) rfl lf_X11_49 dX11_waits_38 ?_
      refine lv_iload_n X.1 X.2.1 dX11_waits_41 rfl (lv_at hl 3 rfl) ?_
      refine r_ei I (r_runV X I pk_X0_wasAt (c0_wasAt l G (k := 24) ⟨by decide, rfl, rfl⟩ _ _ _) lm_X11_188 (by decide) (cl_0 rfl) rfl rfl rfl hl.1 rfl (Nat.le_of_ble_eq_true rfl) dX11_waits_42 ⟨Nat.le_of_ble_eq_true rfl, Nat.le_of_ble_eq_true rfl⟩ ⟨Nat.le_refl 0, Nat.le_refl 0⟩) (fun H locs I => ?_)
      refine lv_if_ne (tgt := 71) X.1 X.2.1 dX11_waits_45 (by decide) (fun c_5 => ?_) (fun c_5 => ?_)
      · skip
        have hE := ite_t hE (b2i_y c_5)
        refine lv_iinc (v := _ + 1) (lv' := [(3, .int _), (0, .ref _), (1, .int _), (2, .int _)]) X.1 X.2.1 dX11_waits_71 hl (k := 3) rfl rfl (by decide) rfl (fun ls hl => ?_)
        refine lv_goto (tgt := 26) X.1 X.2.1 dX11_waits_74 (by decide) ?_
        exact ih _ _ _ _ _ _ I (lv_sub hl [1, 2, 3, 0] rfl) (Nat.lt_of_lt_of_le (dec_c (by first | with_reducible rfl | simp [f8_houses, f11_cell, w_f11_standsNow, sp_n]) (up_dec c_4)) (Nat.le_of_lt_succ hm)) (hE.trans (rfl))
      · skip
        have hE := ite_f hE (b2i_n c_5)
        refine lv_aload_n X.1 X.2.1 dX11_waits_48 rfl (lv_at hl 0 rfl) ?_
        refine lv_iload_n X.1 X.2.1 dX11_waits_49 rfl (lv_at hl 3 rfl) ?_
        refine lv_aload_n X.1 X.2.1 dX11_waits_50 rfl (lv_at hl 0 rfl) ?_
        refine g11_5 X I (k := 0) (by decide) rfl lf_X11_49 dX11_waits_51 ?_
        refine lv_iload_n X.1 X.2.1 dX11_waits_54 rfl (lv_at hl 3 rfl) ?_
        refine r_ei I (r_runV X I pk_X0_grievanceOf (c0_grievanceOf l G (k := 24) ⟨by decide, rfl, rfl⟩ _ _ _) lm_X11_182 (by decide) (cl_0 rfl) rfl rfl rfl hl.1 rfl (Nat.le_of_ble_eq_true rfl) dX11_waits_55 ⟨Nat.le_of_ble_eq_true rfl, Nat.le_of_ble_eq_true rfl⟩ ⟨Nat.le_refl 0, Nat.le_refl 0⟩) (fun H locs I => ?_)
        refine r_ei I (r_runV X I pk_X11_standsNow (c11_standsNow l G _ _ _ _) lm_X11_207 (by decide) (cl_11 rfl) rfl rfl rfl hl.1 rfl (Nat.le_of_ble_eq_true rfl) dX11_waits_58 ⟨Nat.le_of_ble_eq_true rfl, Nat.le_of_ble_eq_true rfl⟩ ⟨Nat.le_refl 0, Nat.le_refl 0⟩) (fun H locs I => ?_)
        refine lv_iload_n X.1 X.2.1 dX11_waits_61 rfl (lv_at hl 1 rfl) ?_
        refine lv_icmp_lt (tgt := 71) X.1 X.2.1 dX11_waits_62 (by decide) (fun c_6 => ?_) (fun c_6 => ?_)
        · skip
          have hE := ite_t hE c_6
          refine lv_iinc (v := _ + 1) (lv' := [(3, .int _), (0, .ref _), (1, .int _), (2, .int _)]) X.1 X.2.1 dX11_waits_71 hl (k := 3) rfl rfl (by decide) rfl (fun ls hl => ?_)
          refine lv_goto (tgt := 26) X.1 X.2.1 dX11_waits_74 (by decide) ?_
          exact ih _ _ _ _ _ _ I (lv_sub hl [1, 2, 3, 0] rfl) (Nat.lt_of_lt_of_le (dec_c (by first | with_reducible rfl | simp [f8_houses, f11_cell, w_f11_standsNow, sp_n]) (up_dec c_4)) (Nat.le_of_lt_succ hm)) (hE.trans (rfl))
        · skip
          have hE := ite_f hE c_6
          refine lv_iload_n X.1 X.2.1 dX11_waits_65 rfl (lv_at hl 2 rfl) ?_
          refine lv_iconst (v := 1) X.1 X.2.1 dX11_waits_66 (by decide) ?_
          refine lv_iload_n X.1 X.2.1 dX11_waits_67 rfl (lv_at hl 3 rfl) ?_
          refine lv_ishl X.1 X.2.1 dX11_waits_68 ?_
          refine lv_ior X.1 X.2.1 dX11_waits_69 ?_
          refine lv_istore_n (lv' := [(2, .int _), (0, .ref _), (1, .int _), (3, .int _)]) X.1 X.2.1 dX11_waits_70 rfl hl (by decide) rfl (fun ls hl => ?_)
          refine lv_iinc (v := _ + 1) (lv' := [(3, .int _), (2, .int _), (0, .ref _), (1, .int _)]) X.1 X.2.1 dX11_waits_71 hl (k := 3) rfl rfl (by decide) rfl (fun ls hl => ?_)
          refine lv_goto (tgt := 26) X.1 X.2.1 dX11_waits_74 (by decide) ?_
          exact ih _ _ _ _ _ _ I (lv_sub hl [2, 3, 1, 0] rfl) (Nat.lt_of_lt_of_le (dec_c (by first | with_reducible rfl | simp [f8_houses, f11_cell, w_f11_standsNow, sp_n]) (up_dec c_4)) (Nat.le_of_lt_succ hm)) (hE.trans (rfl))
set_option maxHeartbeats 4000000 in
set_option maxRecDepth 100000 in
theorem c11_waits (l : Launch) (G : GT) (σ : SI) (τ : SL) (x1 : Int32) : Mc l yX11_waits cX11_waits 4 (some .int) 5 G [.ref (G.2.1 0), .int x1] σ τ (Qi G (Ei (f11_waits σ x1).1 (f11_waits σ x1).2 τ)) := by
  refine m_start (by decide +kernel) (Nat.le_of_ble_eq_true rfl) rfl (fun p e s m args below meth c ls X I hl => ?_)
  have hl : lv_has ls 4 [(0, .ref (G.2.1 0)), (1, .int x1)] := hl
  obtain ⟨E, hE⟩ : ∃ E, E = (f11_waits σ x1) := ⟨_, rfl⟩
  rw [← hE]
  refine lv_aload_n X.1 X.2.1 dX11_waits_0 rfl (lv_at hl 0 rfl) ?_
  refine g11_3 X I (k := 0) (by decide) rfl lf_X11_35 dX11_waits_1 ?_
  refine r_ei I (r_runV X I pk_X8_isTold (c8_isTold l G (k := 10) ⟨by decide, rfl, rfl, rfl⟩ _ _) lm_X11_154 (by decide) (cl_8 rfl) rfl rfl rfl hl.1 rfl (Nat.le_of_ble_eq_true rfl) dX11_waits_4 ⟨Nat.le_of_ble_eq_true rfl, Nat.le_of_ble_eq_true rfl⟩ ⟨Nat.le_refl 0, Nat.le_refl 0⟩) (fun H locs I => ?_)
  refine lv_if_eq (tgt := 20) X.1 X.2.1 dX11_waits_7 (by decide) (fun c_1 => ?_) (fun c_1 => ?_)
  · skip
    have hE := ite_f hE (b2i_n c_1)
    refine lv_iconst (v := (-1)) X.1 X.2.1 dX11_waits_20 (by decide) ?_
    have h9 := hE
    exact r_iret X I (e_i (pr_fst h9) (pr_snd h9) rfl) dX11_waits_21
  · skip
    have hE := ite_t hE (b2i_y c_1)
    refine lv_iload_n X.1 X.2.1 dX11_waits_10 rfl (lv_at hl 1 rfl) ?_
    refine lv_if_lt (tgt := 20) X.1 X.2.1 dX11_waits_11 (by decide) (fun c_2 => ?_) (fun c_2 => ?_)
    · skip
      have hE := ite_t hE c_2
      refine lv_iconst (v := (-1)) X.1 X.2.1 dX11_waits_20 (by decide) ?_
      have h9 := hE
      exact r_iret X I (e_i (pr_fst h9) (pr_snd h9) rfl) dX11_waits_21
    · skip
      have hE := ite_f hE c_2
      refine lv_iload_n X.1 X.2.1 dX11_waits_14 rfl (lv_at hl 1 rfl) ?_
      refine lv_bipush (v := 60) X.1 X.2.1 dX11_waits_15 (by decide) ?_
      refine lv_icmp_le (tgt := 22) X.1 X.2.1 dX11_waits_17 (by decide) (fun c_3 => ?_) (fun c_3 => ?_)
      · skip
        have hE := ite_t hE c_3
        refine lv_iconst (v := 0) X.1 X.2.1 dX11_waits_22 (by decide) ?_
        refine lv_istore_n (lv' := [(2, .int _), (0, .ref _), (1, .int _)]) X.1 X.2.1 dX11_waits_23 rfl hl (by decide) rfl (fun ls hl => ?_)
        refine lv_iconst (v := 0) X.1 X.2.1 dX11_waits_24 (by decide) ?_
        refine lv_istore_n (lv' := [(3, .int _), (2, .int _), (0, .ref _), (1, .int _)]) X.1 X.2.1 dX11_waits_25 rfl hl (by decide) rfl (fun ls hl => ?_)
        exact c11_waits_c26 X _ _ _ _ _ _ _ _ _ I (lv_sub hl [2, 3, 1, 0] rfl) (fu1_lt _) (hE.trans (rfl))
      · skip
        have hE := ite_f hE c_3
        refine lv_iconst (v := (-1)) X.1 X.2.1 dX11_waits_20 (by decide) ?_
        have h9 := hE
        exact r_iret X I (e_i (pr_fst h9) (pr_snd h9) rfl) dX11_waits_21
