noncomputable def f11_status (σ : SI) (x1 : Int32) : Int32 := if x1 < (0 : Int32) then (-1 : Int32) else (if (5 : Int32) ≤ x1 then (-1 : Int32) else (σ 39 (Int32.toNatClampNeg x1)))
set_option maxHeartbeats 4000000 in
set_option maxRecDepth 100000 in
theorem c11_status (l : Launch) (G : GT) (σ : SI) (τ : SL) (x1 : Int32) : Mc l yX11_status cX11_status 2 (some .int) 0 G [.ref (G.2.1 0), .int x1] σ τ (Qi G (Ei (f11_status σ x1) σ τ)) := by
  refine m_start (by decide +kernel) (Nat.le_of_ble_eq_true rfl) rfl (fun p e s m args below meth c ls X I hl => ?_)
  have hl : lv_has ls 2 [(0, .ref (G.2.1 0)), (1, .int x1)] := hl
  obtain ⟨E, hE⟩ : ∃ E, E = (f11_status σ x1) := ⟨_, rfl⟩
  rw [← hE]
  refine lv_iload_n X.1 X.2.1 dX11_status_0 rfl (lv_at hl 1 rfl) ?_
  refine lv_if_lt (tgt := 22) X.1 X.2.1 dX11_status_1 (by decide) (fun c_1 => ?_) (fun c_1 => ?_)
  · skip
    have hE := ite_t hE c_1
    refine lv_iconst (v := (-1)) X.1 X.2.1 dX11_status_22 (by decide) ?_
    have h9 := hE
    exact r_iret X I (e_i h9.symm rfl rfl) dX11_status_23
  · skip
    have hE := ite_f hE c_1
    refine lv_iload_n X.1 X.2.1 dX11_status_4 rfl (lv_at hl 1 rfl) ?_
    refine lv_aload_n X.1 X.2.1 dX11_status_5 rfl (lv_at hl 0 rfl) ?_
    refine g11_10 X I (k := 0) (by decide) rfl lf_X11_83 dX11_status_6 ?_
    refine r_alen X I (k := 39) (n := 5) (by decide) rfl (v := 5) rfl dX11_status_9 ?_
    refine lv_icmp_ge (tgt := 22) X.1 X.2.1 dX11_status_10 (by decide) (fun c_2 => ?_) (fun c_2 => ?_)
    · skip
      have hE := ite_t hE c_2
      refine lv_iconst (v := (-1)) X.1 X.2.1 dX11_status_22 (by decide) ?_
      have h9 := hE
      exact r_iret X I (e_i h9.symm rfl rfl) dX11_status_23
    · skip
      have hE := ite_f hE c_2
      refine lv_aload_n X.1 X.2.1 dX11_status_13 rfl (lv_at hl 0 rfl) ?_
      refine g11_10 X I (k := 0) (by decide) rfl lf_X11_83 dX11_status_14 ?_
      refine lv_iload_n X.1 X.2.1 dX11_status_17 rfl (lv_at hl 1 rfl) ?_
      refine r_ald X I (k := 39) (n := 5) (by decide) rfl (vp_g (n := 5) (by decide) c_1 c_2) dX11_status_18 ?_
      refine lv_goto (tgt := 23) X.1 X.2.1 dX11_status_19 (by decide) ?_
      have h9 := hE
      exact r_iret X I (e_i h9.symm rfl rfl) dX11_status_23
noncomputable def f11_undo (σ : SI) : Int32 × SI := let r0 := (f5_takeBack 24 σ); if r0.1 = true then ((f5_kept r0.2), r0.2) else ((-1 : Int32), r0.2)
theorem w_f11_undo (σ : SI) (a : Nat) (h0 : a ≠ 24) (h1 : a ≠ 25) (h2 : a ≠ 26) : (f11_undo σ).2 a = σ a := by
  refine fp_to2 ?_
  unfold f11_undo
  exact (fr_ite2 (fr_mk21 (w_f5_takeBack _ a h2 h1 h0)) (fr_mk21 (w_f5_takeBack _ a h2 h1 h0)))
set_option maxHeartbeats 4000000 in
set_option maxRecDepth 100000 in
theorem c11_undo (l : Launch) (G : GT) (σ : SI) (τ : SL) : Mc l yX11_undo cX11_undo 1 (some .int) 4 G [.ref (G.2.1 0)] σ τ (Qi G (Ei (f11_undo σ).1 (f11_undo σ).2 τ)) := by
  refine m_start (by decide +kernel) (Nat.le_of_ble_eq_true rfl) rfl (fun p e s m args below meth c ls X I hl => ?_)
  have hl : lv_has ls 1 [(0, .ref (G.2.1 0))] := hl
  obtain ⟨E, hE⟩ : ∃ E, E = (f11_undo σ) := ⟨_, rfl⟩
  rw [← hE]
  refine lv_aload_n X.1 X.2.1 dX11_undo_0 rfl (lv_at hl 0 rfl) ?_
  refine g11_6 X I (k := 0) (by decide) rfl lf_X11_56 dX11_undo_1 ?_
  refine lv_aload_n X.1 X.2.1 dX11_undo_4 rfl (lv_at hl 0 rfl) ?_
  refine g11_5 X I (k := 0) (by decide) rfl lf_X11_49 dX11_undo_5 ?_
  refine r_ei I (r_runV X I pk_X5_takeBack (c5_takeBack l G (k1 := 24) ⟨by decide, rfl, rfl⟩ _ _) lm_X11_300 (by decide) (cl_5 rfl) rfl rfl rfl hl.1 rfl (Nat.le_of_ble_eq_true rfl) dX11_undo_8 ⟨Nat.le_of_ble_eq_true rfl, Nat.le_of_ble_eq_true rfl⟩ ⟨Nat.le_refl 0, Nat.le_refl 0⟩) (fun H locs I => ?_)
  refine lv_if_eq (tgt := 24) X.1 X.2.1 dX11_undo_11 (by decide) (fun c_1 => ?_) (fun c_1 => ?_)
  · skip
    have hE := ite_f hE (b2i_n c_1)
    refine lv_iconst (v := (-1)) X.1 X.2.1 dX11_undo_24 (by decide) ?_
    have h9 := hE
    exact r_iret X I (e_i (pr_fst h9) (pr_snd h9) rfl) dX11_undo_25
  · skip
    have hE := ite_t hE (b2i_y c_1)
    refine lv_aload_n X.1 X.2.1 dX11_undo_14 rfl (lv_at hl 0 rfl) ?_
    refine g11_6 X I (k := 0) (by decide) rfl lf_X11_56 dX11_undo_15 ?_
    refine r_ei I (r_runV X I pk_X5_kept (c5_kept l G _ _) lm_X11_304 (by decide) (cl_5 rfl) rfl rfl rfl hl.1 rfl (Nat.le_of_ble_eq_true rfl) dX11_undo_18 ⟨Nat.le_of_ble_eq_true rfl, Nat.le_of_ble_eq_true rfl⟩ ⟨Nat.le_refl 0, Nat.le_refl 0⟩) (fun H locs I => ?_)
    refine lv_goto (tgt := 25) X.1 X.2.1 dX11_undo_21 (by decide) ?_
    have h9 := hE
    exact r_iret X I (e_i (pr_fst h9) (pr_snd h9) rfl) dX11_undo_25
noncomputable def f11_log (σ : SI) (x1 : Int32) (x2 : Int32) : Int32 := (f5_noted 24 σ x1 x2)
set_option maxHeartbeats 4000000 in
set_option maxRecDepth 100000 in
theorem c11_log (l : Launch) (G : GT) (σ : SI) (τ : SL) (x1 : Int32) (x2 : Int32) : Mc l yX11_log cX11_log 3 (some .int) 3 G [.ref (G.2.1 0), .int x1, .int x2] σ τ (Qi G (Ei (f11_log σ x1 x2) σ τ)) := by
  refine m_start (by decide +kernel) (Nat.le_of_ble_eq_true rfl) rfl (fun p e s m args below meth c ls X I hl => ?_)
  have hl : lv_has ls 3 [(0, .ref (G.2.1 0)), (1, .int x1), (2, .int x2)] := hl
  obtain ⟨E, hE⟩ : ∃ E, E = (f11_log σ x1 x2) := ⟨_, rfl⟩
  rw [← hE]
  refine lv_aload_n X.1 X.2.1 dX11_log_0 rfl (lv_at hl 0 rfl) ?_
  refine g11_6 X I (k := 0) (by decide) rfl lf_X11_56 dX11_log_1 ?_
  refine lv_aload_n X.1 X.2.1 dX11_log_4 rfl (lv_at hl 0 rfl) ?_
  refine g11_5 X I (k := 0) (by decide) rfl lf_X11_49 dX11_log_5 ?_
  refine lv_iload_n X.1 X.2.1 dX11_log_8 rfl (lv_at hl 1 rfl) ?_
  refine lv_iload_n X.1 X.2.1 dX11_log_9 rfl (lv_at hl 2 rfl) ?_
  refine r_ei I (r_runV X I pk_X5_noted (c5_noted l G (k1 := 24) ⟨by decide, rfl, rfl⟩ _ _ _ _) lm_X11_307 (by decide) (cl_5 rfl) rfl rfl rfl hl.1 rfl (Nat.le_of_ble_eq_true rfl) dX11_log_10 ⟨Nat.le_of_ble_eq_true rfl, Nat.le_of_ble_eq_true rfl⟩ ⟨Nat.le_refl 0, Nat.le_refl 0⟩) (fun H locs I => ?_)
  have h9 := hE
  exact r_iret X I (e_i h9.symm rfl rfl) dX11_log_13
noncomputable def f11_route (σ : SI) (x1 : Int32) : Int32 × SI := if (f8_isTold 10 σ) = true then (if x1 < (0 : Int32) then ((-1 : Int32), σ) else (if x1 ≤ (2 : Int32) then (let s0 := (f4_findRoute σ); if x1 = (0 : Int32) then (if (s0 32 10) = (0 : Int32) then ((-1 : Int32), s0) else ((s0 32 9), s0)) else (if x1 = (1 : Int32) then ((s0 32 11), s0) else ((s0 32 12), s0))) else ((-1 : Int32), σ))) else ((-1 : Int32), σ)
theorem w_f11_route (σ : SI) (x1 : Int32) (a : Nat) (h0 : a ≠ 13) (h1 : a ≠ 15) (h2 : a ≠ 32) : (f11_route σ x1).2 a = σ a := by
  refine fp_to2 ?_
  unfold f11_route
  exact (fr_ite2 (fr_ite2 (fr_mk21 rfl) (fr_ite2 (fr_ite2 (fr_ite2 (fr_mk21 (w_f4_findRoute _ a h0 h1 h2)) (fr_mk21 (w_f4_findRoute _ a h0 h1 h2))) (fr_ite2 (fr_mk21 (w_f4_findRoute _ a h0 h1 h2)) (fr_mk21 (w_f4_findRoute _ a h0 h1 h2)))) (fr_mk21 rfl))) (fr_mk21 rfl))
set_option maxHeartbeats 4000000 in
set_option maxRecDepth 100000 in
theorem c11_route (l : Launch) (G : GT) (σ : SI) (τ : SL) (x1 : Int32) : Mc l yX11_route cX11_route 2 (some .int) 30 G [.ref (G.2.1 0), .int x1] σ τ (Qi G (Ei (f11_route σ x1).1 (f11_route σ x1).2 τ)) := by
  refine m_start (by decide +kernel) (Nat.le_of_ble_eq_true rfl) rfl (fun p e s m args below meth c ls X I hl => ?_)
  have hl : lv_has ls 2 [(0, .ref (G.2.1 0)), (1, .int x1)] := hl
  obtain ⟨E, hE⟩ : ∃ E, E = (f11_route σ x1) := ⟨_, rfl⟩
  rw [← hE]
  refine lv_aload_n X.1 X.2.1 dX11_route_0 rfl (lv_at hl 0 rfl) ?_
  refine g11_3 X I (k := 0) (by decide) rfl lf_X11_35 dX11_route_1 ?_
  refine r_ei I (r_runV X I pk_X8_isTold (c8_isTold l G (k := 10) ⟨by decide, rfl, rfl, rfl⟩ _ _) lm_X11_154 (by decide) (cl_8 rfl) rfl rfl rfl hl.1 rfl (Nat.le_of_ble_eq_true rfl) dX11_route_4 ⟨Nat.le_of_ble_eq_true rfl, Nat.le_of_ble_eq_true rfl⟩ ⟨Nat.le_refl 0, Nat.le_refl 0⟩) (fun H locs I => ?_)
  refine lv_if_eq (tgt := 19) X.1 X.2.1 dX11_route_7 (by decide) (fun c_1 => ?_) (fun c_1 => ?_)
  · skip
    have hE := ite_f hE (b2i_n c_1)
    refine lv_iconst (v := (-1)) X.1 X.2.1 dX11_route_19 (by decide) ?_
    have h9 := hE
    exact r_iret X I (e_i (pr_fst h9) (pr_snd h9) rfl) dX11_route_20
  · skip
    have hE := ite_t hE (b2i_y c_1)
    refine lv_iload_n X.1 X.2.1 dX11_route_10 rfl (lv_at hl 1 rfl) ?_
    refine lv_if_lt (tgt := 19) X.1 X.2.1 dX11_route_11 (by decide) (fun c_2 => ?_) (fun c_2 => ?_)
    · skip
      have hE := ite_t hE c_2
      refine lv_iconst (v := (-1)) X.1 X.2.1 dX11_route_19 (by decide) ?_
      have h9 := hE
      exact r_iret X I (e_i (pr_fst h9) (pr_snd h9) rfl) dX11_route_20
    · skip
      have hE := ite_f hE c_2
      refine lv_iload_n X.1 X.2.1 dX11_route_14 rfl (lv_at hl 1 rfl) ?_
      refine lv_iconst (v := 2) X.1 X.2.1 dX11_route_15 (by decide) ?_
      refine lv_icmp_le (tgt := 21) X.1 X.2.1 dX11_route_16 (by decide) (fun c_3 => ?_) (fun c_3 => ?_)
      · skip
        have hE := ite_t hE c_3
        refine lv_aload_n X.1 X.2.1 dX11_route_21 rfl (lv_at hl 0 rfl) ?_
        refine g11_7 X I (k := 0) (by decide) rfl lf_X11_65 dX11_route_22 ?_
        refine r_ev I (r_runV X I pk_X4_findRoute (c4_findRoute l G _ _) lm_X11_311 (by decide) (cl_4 rfl) rfl rfl rfl hl.1 rfl (Nat.le_of_ble_eq_true rfl) dX11_route_25 ⟨Nat.le_of_ble_eq_true rfl, Nat.le_of_ble_eq_true rfl⟩ ⟨Nat.le_refl 0, Nat.le_refl 0⟩) (fun H locs I => ?_)
        refine lv_iload_n X.1 X.2.1 dX11_route_28 rfl (lv_at hl 1 rfl) ?_
        refine lv_if_ne (tgt := 54) X.1 X.2.1 dX11_route_29 (by decide) (fun c_4 => ?_) (fun c_4 => ?_)
        · skip
          have hE := ite_f hE c_4
          refine lv_iload_n X.1 X.2.1 dX11_route_54 rfl (lv_at hl 1 rfl) ?_
          refine lv_iconst (v := 1) X.1 X.2.1 dX11_route_55 (by decide) ?_
          refine lv_icmp_ne (tgt := 69) X.1 X.2.1 dX11_route_56 (by decide) (fun c_5 => ?_) (fun c_5 => ?_)
          · skip
            have hE := ite_f hE c_5
            refine lv_aload_n X.1 X.2.1 dX11_route_69 rfl (lv_at hl 0 rfl) ?_
            refine g11_7 X I (k := 0) (by decide) rfl lf_X11_65 dX11_route_70 ?_
            refine g4_12 X I (k := 32) (by decide) rfl lf_X11_323 dX11_route_73 ?_
            have h9 := hE
            exact r_iret X I (e_i (pr_fst h9) (pr_snd h9) rfl) dX11_route_76
          · skip
            have hE := ite_t hE c_5
            refine lv_aload_n X.1 X.2.1 dX11_route_59 rfl (lv_at hl 0 rfl) ?_
            refine g11_7 X I (k := 0) (by decide) rfl lf_X11_65 dX11_route_60 ?_
            refine g4_11 X I (k := 32) (by decide) rfl lf_X11_320 dX11_route_63 ?_
            refine lv_goto (tgt := 76) X.1 X.2.1 dX11_route_66 (by decide) ?_
            have h9 := hE
            exact r_iret X I (e_i (pr_fst h9) (pr_snd h9) rfl) dX11_route_76
        · skip
          have hE := ite_t hE c_4
          refine lv_aload_n X.1 X.2.1 dX11_route_32 rfl (lv_at hl 0 rfl) ?_
          refine g11_7 X I (k := 0) (by decide) rfl lf_X11_65 dX11_route_33 ?_
          refine g4_10 X I (k := 32) (by decide) rfl lf_X11_314 dX11_route_36 ?_
          refine lv_if_ne (tgt := 46) X.1 X.2.1 dX11_route_39 (by decide) (fun c_6 => ?_) (fun c_6 => ?_)
          · skip
            have hE := ite_f hE c_6
            refine lv_aload_n X.1 X.2.1 dX11_route_46 rfl (lv_at hl 0 rfl) ?_
            refine g11_7 X I (k := 0) (by decide) rfl lf_X11_65 dX11_route_47 ?_
            refine g4_9 X I (k := 32) (by decide) rfl lf_X11_317 dX11_route_50 ?_
            have h9 := hE
            exact r_iret X I (e_i (pr_fst h9) (pr_snd h9) rfl) dX11_route_53
          · skip
            have hE := ite_t hE c_6
            refine lv_iconst (v := (-1)) X.1 X.2.1 dX11_route_42 (by decide) ?_
            refine lv_goto (tgt := 53) X.1 X.2.1 dX11_route_43 (by decide) ?_
            have h9 := hE
            exact r_iret X I (e_i (pr_fst h9) (pr_snd h9) rfl) dX11_route_53
      · skip
        have hE := ite_f hE c_3
        refine lv_iconst (v := (-1)) X.1 X.2.1 dX11_route_19 (by decide) ?_
        have h9 := hE
        exact r_iret X I (e_i (pr_fst h9) (pr_snd h9) rfl) dX11_route_20
noncomputable def f11_orderNow_c9 : Nat → Int32 → SI → SI
  | 0, _, σ => σ
  | fu + 1, v1, σ => if (f8_houses 10 σ) ≤ v1 then σ else (if (f0_wasAt 24 σ v1) = true then (f11_orderNow_c9 fu (v1 + 1) σ) else (let s1 := (f6_put σ v1 (f0_grievanceOf 24 σ v1)); (f11_orderNow_c9 fu (v1 + 1) s1)))
noncomputable def f11_orderNow (σ : SI) : SI := let s0 := (f6_clear σ); (f11_orderNow_c9 (fu1 ((Int32.toInt (f8_houses 10 s0) - Int32.toInt (0 : Int32)).toNat)) (0 : Int32) s0)
theorem w_f11_orderNow_c9 (a : Nat) (h0 : a ≠ 36) (h1 : a ≠ 37) (h2 : a ≠ 38) : ∀ (fu : Nat) (v1 : Int32) (σ : SI), (f11_orderNow_c9 fu v1 σ) a = σ a := by
  intro fu
  induction fu with
  | zero => intro v1 σ; exact rfl
  | succ fu ih =>
    intro v1 σ
    unfold f11_orderNow_c9
    exact (fr_ite rfl (fr_ite (ih _ _) ((ih _ _).trans (w_f6_put _ _ _ a h0 h1 h2))))
theorem w_f11_orderNow (σ : SI) (a : Nat) (h0 : a ≠ 36) (h1 : a ≠ 37) (h2 : a ≠ 38) : (f11_orderNow σ) a = σ a := by
  unfold f11_orderNow
  exact ((w_f11_orderNow_c9 a h0 h1 h2 _ _ _).trans (w_f6_clear _ a h0))
set_option maxHeartbeats 4000000 in
set_option maxRecDepth 100000 in
theorem c11_orderNow_c9 {l : Launch} {p : Program} {e : Env} {s : State} {m : MethodId} {args : Array Value} {below : List Frame} {meth : Method} {c : Code} {G : GT} (X : CX p s m args meth c cX11_orderNow RX11 2 none G) {E : SI} (τ : SL) : ∀ (fu : Nat) (v1 : Int32) (σ : SI) (H : Heap) (locs : List Loc) (ls : Array Slot), IX G s H locs σ τ → lv_has ls 2 [(0, .ref (G.2.1 0)), (1, .int v1)] → (Int32.toInt (f8_houses 10 σ) - Int32.toInt v1).toNat < fu → E = (f11_orderNow_c9 fu v1 σ) → W p l e (rmN 2) s m args below meth c H locs 0 0 (MQ below ((Qv G (Ev E τ)) s.heap.size) args s 0 0 (AW G s.heap.size)) (F0 m 9 ls []) := by
  intro fu
  induction fu with
  | zero =>
    intro v1 σ H locs ls I hl  hm hE
    exact absurd hm (Nat.not_lt_zero _)
  | succ fu ih =>
    intro v1 σ H locs ls I hl  hm hE
    refine lv_iload_n X.1 X.2.1 dX11_orderNow_9 rfl (lv_at hl 1 rfl) ?_
    refine lv_aload_n X.1 X.2.1 dX11_orderNow_10 rfl (lv_at hl 0 rfl) ?_
    refine g11_3 X I (k := 0) (by decide) rfl lf_X11_35 dX11_orderNow_11 ?_
    refine r_ei I (r_runV X I pk_X8_houses (c8_houses l G (k := 10) ⟨by decide, rfl, rfl, rfl⟩ _ _) lm_X11_151 (by decide) (cl_8 rfl) rfl rfl rfl hl.1 rfl (Nat.le_of_ble_eq_true rfl) dX11_orderNow_14 ⟨Nat.le_of_ble_eq_true rfl, Nat.le_of_ble_eq_true rfl⟩ ⟨Nat.le_refl 0, Nat.le_refl 0⟩) (fun H locs I => ?_)
    refine lv_icmp_ge (tgt := 53) X.1 X.2.1 dX11_orderNow_17 (by decide) (fun c_1 => ?_) (fun c_1 => ?_)
    · skip
      have hE := ite_t hE c_1
      have h9 := hE
      exact r_vret X I (e_v h9.symm rfl) dX11_orderNow_53
    · skip
      have hE := ite_f hE c_1
      refine lv_aload_n X.1 X.2.1 dX11_orderNow_20 rfl (lv_at hl 0 rfl) ?_
      refine g11_5 X I (k := 0) (by decide) rfl lf_X11_49 dX11_orderNow_21 ?_
      refine lv_iload_n X.1 X.2.1 dX11_orderNow_24 rfl (lv_at hl 1 rfl) ?_
      refine r_ei I (r_runV X I pk_X0_wasAt (c0_wasAt l G (k := 24) ⟨by decide, rfl, rfl⟩ _ _ _) lm_X11_188 (by decide) (cl_0 rfl) rfl rfl rfl hl.1 rfl (Nat.le_of_ble_eq_true rfl) dX11_orderNow_25 ⟨Nat.le_of_ble_eq_true rfl, Nat.le_of_ble_eq_true rfl⟩ ⟨Nat.le_refl 0, Nat.le_refl 0⟩) (fun H locs I => ?_)
      refine lv_if_ne (tgt := 47) X.1 X.2.1 dX11_orderNow_28 (by decide) (fun c_2 => ?_) (fun c_2 => ?_)
      · skip
        have hE := ite_t hE (b2i_y c_2)
        refine lv_iinc (v := _ + 1) (lv' := [(1, .int _), (0, .ref _)]) X.1 X.2.1 dX11_orderNow_47 hl (k := 1) rfl rfl (by decide) rfl (fun ls hl => ?_)
        refine lv_goto (tgt := 9) X.1 X.2.1 dX11_orderNow_50 (by decide) ?_
        exact ih _ _ _ _ _ I (lv_sub hl [1, 0] rfl) (Nat.lt_of_lt_of_le (dec_c (by first | with_reducible rfl | simp [f8_houses, f11_cell, w_f6_clear, w_f6_put, sp_n]) (up_dec c_1)) (Nat.le_of_lt_succ hm)) (hE.trans (rfl))
      · skip
        have hE := ite_f hE (b2i_n c_2)
        refine lv_aload_n X.1 X.2.1 dX11_orderNow_31 rfl (lv_at hl 0 rfl) ?_
        refine g11_9 X I (k := 0) (by decide) rfl lf_X11_79 dX11_orderNow_32 ?_
        refine lv_iload_n X.1 X.2.1 dX11_orderNow_35 rfl (lv_at hl 1 rfl) ?_
        refine lv_aload_n X.1 X.2.1 dX11_orderNow_36 rfl (lv_at hl 0 rfl) ?_
        refine g11_5 X I (k := 0) (by decide) rfl lf_X11_49 dX11_orderNow_37 ?_
        refine lv_iload_n X.1 X.2.1 dX11_orderNow_40 rfl (lv_at hl 1 rfl) ?_
        refine r_ei I (r_runV X I pk_X0_grievanceOf (c0_grievanceOf l G (k := 24) ⟨by decide, rfl, rfl⟩ _ _ _) lm_X11_182 (by decide) (cl_0 rfl) rfl rfl rfl hl.1 rfl (Nat.le_of_ble_eq_true rfl) dX11_orderNow_41 ⟨Nat.le_of_ble_eq_true rfl, Nat.le_of_ble_eq_true rfl⟩ ⟨Nat.le_refl 0, Nat.le_refl 0⟩) (fun H locs I => ?_)
        refine r_ev I (r_runV X I pk_X6_put (c6_put l G _ _ _ _) lm_X11_339 (by decide) (cl_6 rfl) rfl rfl rfl hl.1 rfl (Nat.le_of_ble_eq_true rfl) dX11_orderNow_44 ⟨Nat.le_of_ble_eq_true rfl, Nat.le_of_ble_eq_true rfl⟩ ⟨Nat.le_refl 0, Nat.le_refl 0⟩) (fun H locs I => ?_)
        refine lv_iinc (v := _ + 1) (lv' := [(1, .int _), (0, .ref _)]) X.1 X.2.1 dX11_orderNow_47 hl (k := 1) rfl rfl (by decide) rfl (fun ls hl => ?_)
        refine lv_goto (tgt := 9) X.1 X.2.1 dX11_orderNow_50 (by decide) ?_
        exact ih _ _ _ _ _ I (lv_sub hl [1, 0] rfl) (Nat.lt_of_lt_of_le (dec_c (by first | with_reducible rfl | simp [f8_houses, f11_cell, w_f6_clear, w_f6_put, sp_n]) (up_dec c_1)) (Nat.le_of_lt_succ hm)) (hE.trans (rfl))
set_option maxHeartbeats 4000000 in
set_option maxRecDepth 100000 in
theorem c11_orderNow (l : Launch) (G : GT) (σ : SI) (τ : SL) : Mc l yX11_orderNow cX11_orderNow 2 none 2 G [.ref (G.2.1 0)] σ τ (Qv G (Ev (f11_orderNow σ) τ)) := by
  refine m_start (by decide +kernel) (Nat.le_of_ble_eq_true rfl) rfl (fun p e s m args below meth c ls X I hl => ?_)
  have hl : lv_has ls 2 [(0, .ref (G.2.1 0))] := hl
  obtain ⟨E, hE⟩ : ∃ E, E = (f11_orderNow σ) := ⟨_, rfl⟩
  rw [← hE]
  refine lv_aload_n X.1 X.2.1 dX11_orderNow_0 rfl (lv_at hl 0 rfl) ?_
  refine g11_9 X I (k := 0) (by decide) rfl lf_X11_79 dX11_orderNow_1 ?_
  refine r_ev I (r_runV X I pk_X6_clear (c6_clear l G _ _) lm_X11_336 (by decide) (cl_6 rfl) rfl rfl rfl hl.1 rfl (Nat.le_of_ble_eq_true rfl) dX11_orderNow_4 ⟨Nat.le_of_ble_eq_true rfl, Nat.le_of_ble_eq_true rfl⟩ ⟨Nat.le_refl 0, Nat.le_refl 0⟩) (fun H locs I => ?_)
  refine lv_iconst (v := 0) X.1 X.2.1 dX11_orderNow_7 (by decide) ?_
  refine lv_istore_n (lv' := [(1, .int _), (0, .ref _)]) X.1 X.2.1 dX11_orderNow_8 rfl hl (by decide) rfl (fun ls hl => ?_)
  exact c11_orderNow_c9 X _  _ _ _ _ _ _ I (lv_sub hl [1, 0] rfl) (fu1_lt _) (hE.trans (rfl))
noncomputable def f11_order_c60 (x1 : Int32) : Nat → Int32 → SI → (Int32 × SI)
  | 0, _, σ => (0, σ)
  | fu + 1, v2, σ => if (f6_size σ) ≤ v2 then ((f6_size σ), σ) else (let r2 := (f4_comesTo σ (f6_houseAt σ v2)); if r2.1 = true then (f11_order_c60 x1 fu (v2 + 1) r2.2) else (v2, r2.2))
noncomputable def f11_order (σ : SI) (x1 : Int32) : Int32 × SI := if (f8_isTold 10 σ) = true then (if x1 < (0 : Int32) then ((-1 : Int32), σ) else (if x1 ≤ (1 : Int32) then (let s0 := (f11_orderNow σ); if x1 = (0 : Int32) then (if (f6_size s0) = (0 : Int32) then ((-1 : Int32), s0) else ((f6_digits s0), s0)) else (let s1 := (f4_setOut s0); (f11_order_c60 x1 (fu1 ((Int32.toInt (f6_size s1) - Int32.toInt (0 : Int32)).toNat)) (0 : Int32) s1))) else ((-1 : Int32), σ))) else ((-1 : Int32), σ)
theorem w_f11_order_c60 (x1 : Int32) (a : Nat) (h0 : a ≠ 13) (h1 : a ≠ 15) (h2 : a ≠ 32) (h3 : a ≠ 36) (h4 : a ≠ 37) (h5 : a ≠ 38) : ∀ (fu : Nat) (v2 : Int32) (σ : SI), (f11_order_c60 x1 fu v2 σ).2 a = σ a := by
  intro fu
  induction fu with
  | zero => intro v2 σ; exact rfl
  | succ fu ih =>
    intro v2 σ
    refine fp_to2 ?_
    unfold f11_order_c60
    exact (fr_ite2 (fr_mk21 rfl) (fr_ite2 (fp_of2 (((ih _ _).trans (w_f4_comesTo _ _ a h0 h1 h2)))) (fr_mk21 (w_f4_comesTo _ _ a h0 h1 h2))))
theorem w_f11_order (σ : SI) (x1 : Int32) (a : Nat) (h0 : a ≠ 13) (h1 : a ≠ 15) (h2 : a ≠ 32) (h3 : a ≠ 36) (h4 : a ≠ 37) (h5 : a ≠ 38) : (f11_order σ x1).2 a = σ a := by
  refine fp_to2 ?_
  unfold f11_order
  exact (fr_ite2 (fr_ite2 (fr_mk21 rfl) (fr_ite2 (fr_ite2 (fr_ite2 (fr_mk21 (w_f11_orderNow _ a h3 h4 h5)) (fr_mk21 (w_f11_orderNow _ a h3 h4 h5))) (fp_of2 (((w_f11_order_c60 _ a h0 h1 h2 h3 h4 h5 _ _ _).trans ((w_f4_setOut _ a h2).trans (w_f11_orderNow _ a h3 h4 h5)))))) (fr_mk21 rfl))) (fr_mk21 rfl))
set_option maxHeartbeats 4000000 in
set_option maxRecDepth 100000 in
theorem c11_order_c60 {l : Launch} {p : Program} {e : Env} {s : State} {m : MethodId} {args : Array Value} {below : List Frame} {meth : Method} {c : Code} {G : GT} (X : CX p s m args meth c cX11_order RX11 3 (some .int) G) {E : Int32 × SI} (τ : SL) (x1 : Int32) : ∀ (fu : Nat) (v2 : Int32) (σ : SI) (H : Heap) (locs : List Loc) (ls : Array Slot), IX G s H locs σ τ → lv_has ls 3 [(0, .ref (G.2.1 0)), (1, .int x1), (2, .int v2)] → (Int32.toInt (f6_size σ) - Int32.toInt v2).toNat < fu → E = (f11_order_c60 x1 fu v2 σ) → W p l e (rmN 5) s m args below meth c H locs 0 0 (MQ below ((Qi G (Ei E.1 E.2 τ)) s.heap.size) args s 0 0 (AW G s.heap.size)) (F0 m 60 ls []) := by
  intro fu
  induction fu with
  | zero =>
    intro v2 σ H locs ls I hl  hm hE
    exact absurd hm (Nat.not_lt_zero _)
  | succ fu ih =>
    intro v2 σ H locs ls I hl  hm hE
    refine lv_iload_n X.1 X.2.1 dX11_order_60 rfl (lv_at hl 2 rfl) ?_
    refine lv_aload_n X.1 X.2.1 dX11_order_61 rfl (lv_at hl 0 rfl) ?_
    refine g11_9 X I (k := 0) (by decide) rfl lf_X11_79 dX11_order_62 ?_
    refine r_ei I (r_runV X I pk_X6_size (c6_size l G _ _) lm_X11_329 (by decide) (cl_6 rfl) rfl rfl rfl hl.1 rfl (Nat.le_of_ble_eq_true rfl) dX11_order_65 ⟨Nat.le_of_ble_eq_true rfl, Nat.le_of_ble_eq_true rfl⟩ ⟨Nat.le_refl 0, Nat.le_refl 0⟩) (fun H locs I => ?_)
    refine lv_icmp_ge (tgt := 97) X.1 X.2.1 dX11_order_68 (by decide) (fun c_5 => ?_) (fun c_5 => ?_)
    · skip
      have hE := ite_t hE c_5
      refine lv_aload_n X.1 X.2.1 dX11_order_97 rfl (lv_at hl 0 rfl) ?_
      refine g11_9 X I (k := 0) (by decide) rfl lf_X11_79 dX11_order_98 ?_
      refine r_ei I (r_runV X I pk_X6_size (c6_size l G _ _) lm_X11_329 (by decide) (cl_6 rfl) rfl rfl rfl hl.1 rfl (Nat.le_of_ble_eq_true rfl) dX11_order_101 ⟨Nat.le_of_ble_eq_true rfl, Nat.le_of_ble_eq_true rfl⟩ ⟨Nat.le_refl 0, Nat.le_refl 0⟩) (fun H locs I => ?_)
      have h9 := hE
      exact r_iret X I (e_i (pr_fst h9) (pr_snd h9) rfl) dX11_order_104
    · skip
      have hE := ite_f hE c_5
      refine lv_aload_n X.1 X.2.1 dX11_order_71 rfl (lv_at hl 0 rfl) ?_
      refine g11_7 X I (k := 0) (by decide) rfl lf_X11_65 dX11_order_72 ?_
      refine lv_aload_n X.1 X.2.1 dX11_order_75 rfl (lv_at hl 0 rfl) ?_
      refine g11_9 X I (k := 0) (by decide) rfl lf_X11_79 dX11_order_76 ?_
      refine lv_iload_n X.1 X.2.1 dX11_order_79 rfl (lv_at hl 2 rfl) ?_
      refine r_ei I (r_runV X I pk_X6_houseAt (c6_houseAt l G _ _ _) lm_X11_333 (by decide) (cl_6 rfl) rfl rfl rfl hl.1 rfl (Nat.le_of_ble_eq_true rfl) dX11_order_80 ⟨Nat.le_of_ble_eq_true rfl, Nat.le_of_ble_eq_true rfl⟩ ⟨Nat.le_refl 0, Nat.le_refl 0⟩) (fun H locs I => ?_)
      refine r_ei I (r_runV X I pk_X4_comesTo (c4_comesTo l G _ _ _) lm_X11_232 (by decide) (cl_4 rfl) rfl rfl rfl hl.1 rfl (Nat.le_of_ble_eq_true rfl) dX11_order_83 ⟨Nat.le_of_ble_eq_true rfl, Nat.le_of_ble_eq_true rfl⟩ ⟨Nat.le_refl 0, Nat.le_refl 0⟩) (fun H locs I => ?_)
      refine lv_if_ne (tgt := 91) X.1 X.2.1 dX11_order_86 (by decide) (fun c_6 => ?_) (fun c_6 => ?_)
      · skip
        have hE := ite_t hE (b2i_y c_6)
        refine lv_iinc (v := _ + 1) (lv' := [(2, .int _), (0, .ref _), (1, .int _)]) X.1 X.2.1 dX11_order_91 hl (k := 2) rfl rfl (by decide) rfl (fun ls hl => ?_)
        refine lv_goto (tgt := 60) X.1 X.2.1 dX11_order_94 (by decide) ?_
        exact ih _ _ _ _ _ I (lv_sub hl [1, 2, 0] rfl) (Nat.lt_of_lt_of_le (dec_c (by first | with_reducible rfl | simp [f6_size, w_f11_orderNow, w_f4_comesTo, w_f4_setOut, sp_n]) (up_dec c_5)) (Nat.le_of_lt_succ hm)) (hE.trans (rfl))
      · skip
        have hE := ite_f hE (b2i_n c_6)
        refine lv_iload_n X.1 X.2.1 dX11_order_89 rfl (lv_at hl 2 rfl) ?_
        have h9 := hE
        exact r_iret X I (e_i (pr_fst h9) (pr_snd h9) rfl) dX11_order_90
set_option maxHeartbeats 4000000 in
set_option maxRecDepth 100000 in
theorem c11_order (l : Launch) (G : GT) (σ : SI) (τ : SL) (x1 : Int32) : Mc l yX11_order cX11_order 3 (some .int) 5 G [.ref (G.2.1 0), .int x1] σ τ (Qi G (Ei (f11_order σ x1).1 (f11_order σ x1).2 τ)) := by
  refine m_start (by decide +kernel) (Nat.le_of_ble_eq_true rfl) rfl (fun p e s m args below meth c ls X I hl => ?_)
  have hl : lv_has ls 3 [(0, .ref (G.2.1 0)), (1, .int x1)] := hl
  obtain ⟨E, hE⟩ : ∃ E, E = (f11_order σ x1) := ⟨_, rfl⟩
  rw [← hE]
  refine lv_aload_n X.1 X.2.1 dX11_order_0 rfl (lv_at hl 0 rfl) ?_
  refine g11_3 X I (k := 0) (by decide) rfl lf_X11_35 dX11_order_1 ?_
  refine r_ei I (r_runV X I pk_X8_isTold (c8_isTold l G (k := 10) ⟨by decide, rfl, rfl, rfl⟩ _ _) lm_X11_154 (by decide) (cl_8 rfl) rfl rfl rfl hl.1 rfl (Nat.le_of_ble_eq_true rfl) dX11_order_4 ⟨Nat.le_of_ble_eq_true rfl, Nat.le_of_ble_eq_true rfl⟩ ⟨Nat.le_refl 0, Nat.le_refl 0⟩) (fun H locs I => ?_)
  refine lv_if_eq (tgt := 19) X.1 X.2.1 dX11_order_7 (by decide) (fun c_1 => ?_) (fun c_1 => ?_)
  · skip
    have hE := ite_f hE (b2i_n c_1)
    refine lv_iconst (v := (-1)) X.1 X.2.1 dX11_order_19 (by decide) ?_
    have h9 := hE
    exact r_iret X I (e_i (pr_fst h9) (pr_snd h9) rfl) dX11_order_20
  · skip
    have hE := ite_t hE (b2i_y c_1)
    refine lv_iload_n X.1 X.2.1 dX11_order_10 rfl (lv_at hl 1 rfl) ?_
    refine lv_if_lt (tgt := 19) X.1 X.2.1 dX11_order_11 (by decide) (fun c_2 => ?_) (fun c_2 => ?_)
    · skip
      have hE := ite_t hE c_2
      refine lv_iconst (v := (-1)) X.1 X.2.1 dX11_order_19 (by decide) ?_
      have h9 := hE
      exact r_iret X I (e_i (pr_fst h9) (pr_snd h9) rfl) dX11_order_20
    · skip
      have hE := ite_f hE c_2
      refine lv_iload_n X.1 X.2.1 dX11_order_14 rfl (lv_at hl 1 rfl) ?_
      refine lv_iconst (v := 1) X.1 X.2.1 dX11_order_15 (by decide) ?_
      refine lv_icmp_le (tgt := 21) X.1 X.2.1 dX11_order_16 (by decide) (fun c_3 => ?_) (fun c_3 => ?_)
      · skip
        have hE := ite_t hE c_3
        refine lv_aload_n X.1 X.2.1 dX11_order_21 rfl (lv_at hl 0 rfl) ?_
        refine r_ev I (r_runV X I pk_X11_orderNow (c11_orderNow l G _ _) lm_X11_326 (by decide) (cl_11 rfl) rfl rfl rfl hl.1 rfl (Nat.le_of_ble_eq_true rfl) dX11_order_22 ⟨Nat.le_of_ble_eq_true rfl, Nat.le_of_ble_eq_true rfl⟩ ⟨Nat.le_refl 0, Nat.le_refl 0⟩) (fun H locs I => ?_)
        refine lv_iload_n X.1 X.2.1 dX11_order_25 rfl (lv_at hl 1 rfl) ?_
        refine lv_if_ne (tgt := 51) X.1 X.2.1 dX11_order_26 (by decide) (fun c_4 => ?_) (fun c_4 => ?_)
        · skip
          have hE := ite_f hE c_4
          refine lv_aload_n X.1 X.2.1 dX11_order_51 rfl (lv_at hl 0 rfl) ?_
          refine g11_7 X I (k := 0) (by decide) rfl lf_X11_65 dX11_order_52 ?_
          refine r_ev I (r_runV X I pk_X4_setOut (c4_setOut l G _ _) lm_X11_229 (by decide) (cl_4 rfl) rfl rfl rfl hl.1 rfl (Nat.le_of_ble_eq_true rfl) dX11_order_55 ⟨Nat.le_of_ble_eq_true rfl, Nat.le_of_ble_eq_true rfl⟩ ⟨Nat.le_refl 0, Nat.le_refl 0⟩) (fun H locs I => ?_)
          refine lv_iconst (v := 0) X.1 X.2.1 dX11_order_58 (by decide) ?_
          refine lv_istore_n (lv' := [(2, .int _), (0, .ref _), (1, .int _)]) X.1 X.2.1 dX11_order_59 rfl hl (by decide) rfl (fun ls hl => ?_)
          exact c11_order_c60 X _ _ _ _ _ _ _ _ I (lv_sub hl [1, 2, 0] rfl) (fu1_lt _) (hE.trans (rfl))
        · skip
          have hE := ite_t hE c_4
          refine lv_aload_n X.1 X.2.1 dX11_order_29 rfl (lv_at hl 0 rfl) ?_
          refine g11_9 X I (k := 0) (by decide) rfl lf_X11_79 dX11_order_30 ?_
          refine r_ei I (r_runV X I pk_X6_size (c6_size l G _ _) lm_X11_329 (by decide) (cl_6 rfl) rfl rfl rfl hl.1 rfl (Nat.le_of_ble_eq_true rfl) dX11_order_33 ⟨Nat.le_of_ble_eq_true rfl, Nat.le_of_ble_eq_true rfl⟩ ⟨Nat.le_refl 0, Nat.le_refl 0⟩) (fun H locs I => ?_)
          refine lv_if_ne (tgt := 43) X.1 X.2.1 dX11_order_36 (by decide) (fun c_7 => ?_) (fun c_7 => ?_)
          · skip
            have hE := ite_f hE c_7
            refine lv_aload_n X.1 X.2.1 dX11_order_43 rfl (lv_at hl 0 rfl) ?_
            refine g11_9 X I (k := 0) (by decide) rfl lf_X11_79 dX11_order_44 ?_
            refine r_ei I (r_runV X I pk_X6_digits (c6_digits l G _ _) lm_X11_330 (by decide) (cl_6 rfl) rfl rfl rfl hl.1 rfl (Nat.le_of_ble_eq_true rfl) dX11_order_47 ⟨Nat.le_of_ble_eq_true rfl, Nat.le_of_ble_eq_true rfl⟩ ⟨Nat.le_refl 0, Nat.le_refl 0⟩) (fun H locs I => ?_)
            have h9 := hE
            exact r_iret X I (e_i (pr_fst h9) (pr_snd h9) rfl) dX11_order_50
          · skip
            have hE := ite_t hE c_7
            refine lv_iconst (v := (-1)) X.1 X.2.1 dX11_order_39 (by decide) ?_
            refine lv_goto (tgt := 50) X.1 X.2.1 dX11_order_40 (by decide) ?_
            have h9 := hE
            exact r_iret X I (e_i (pr_fst h9) (pr_snd h9) rfl) dX11_order_50
      · skip
        have hE := ite_f hE c_3
        refine lv_iconst (v := (-1)) X.1 X.2.1 dX11_order_19 (by decide) ?_
        have h9 := hE
        exact r_iret X I (e_i (pr_fst h9) (pr_snd h9) rfl) dX11_order_20
