noncomputable def f12_decades_c30 (x1 : Int32) (x2 : Int64) : Nat → Int32 → Int32 → SI → SL → (Int32 × SI × SL)
  | 0, _, _, σ, τ => (0, σ, τ)
  | fu + 1, v4, v5, σ, τ => if x1 ≤ v5 then (v4, σ, τ) else (let s1 := (f12_keep σ); let r2 := (f12_drawAct s1 τ); if r2.1 = true then (f12_decades_c30 x1 x2 fu (v4 + (1 : Int32)) (v5 + 1) r2.2.1 r2.2.2) else (f12_decades_c30 x1 x2 fu (v4 + (0 : Int32)) (v5 + 1) r2.2.1 r2.2.2))
noncomputable def o12_decades_c30 (x1 : Int32) (x2 : Int64) : Nat → Int32 → Int32 → SI → SL → Prop
  | 0, _, _, _, _ => True
  | fu + 1, v4, v5, σ, τ => if x1 ≤ v5 then True else ((o12_keep σ) ∧ (let s1 := (f12_keep σ); (o12_drawAct s1 τ) ∧ (let r2 := (f12_drawAct s1 τ); if r2.1 = true then (o12_decades_c30 x1 x2 fu (v4 + (1 : Int32)) (v5 + 1) r2.2.1 r2.2.2) else (o12_decades_c30 x1 x2 fu (v4 + (0 : Int32)) (v5 + 1) r2.2.1 r2.2.2))))
noncomputable def f12_decades (σ : SI) (τ : SL) (x1 : Int32) (x2 : Int64) : Int32 × SI × SL := if (σ 123 25) = (0 : Int32) then ((-1 : Int32), σ, τ) else (if (f12_in x1 (1 : Int32) (60 : Int32)) = true then (let t0 := sl τ 123 x2; (f12_decades_c30 x1 x2 (fu1 ((Int32.toInt x1 - Int32.toInt (0 : Int32)).toNat)) (0 : Int32) (0 : Int32) σ t0)) else ((-1 : Int32), σ, τ))
noncomputable def o12_decades (σ : SI) (τ : SL) (x1 : Int32) (x2 : Int64) : Prop := if (σ 123 25) = (0 : Int32) then True else (if (f12_in x1 (1 : Int32) (60 : Int32)) = true then (let t0 := sl τ 123 x2; (o12_decades_c30 x1 x2 (fu1 ((Int32.toInt x1 - Int32.toInt (0 : Int32)).toNat)) (0 : Int32) (0 : Int32) σ t0)) else True)
theorem w_f12_decades_c30 (x1 : Int32) (x2 : Int64) (a : Nat) (h0 : a ≠ 123) (h1 : a ≠ 132) (h2 : a ≠ 133) (h3 : a ≠ 140) (h4 : a ≠ 142) : ∀ (fu : Nat) (v4 : Int32) (v5 : Int32) (σ : SI) (τ : SL), (f12_decades_c30 x1 x2 fu v4 v5 σ τ).2.1 a = σ a := by
  intro fu
  induction fu with
  | zero => intro v4 v5 σ τ; exact rfl
  | succ fu ih =>
    intro v4 v5 σ τ
    refine fp_to21 ?_
    unfold f12_decades_c30
    exact (fr_ite21 (fr_mk31 rfl) (fr_ite21 (fp_of21 (((ih _ _ _ _).trans ((w_f12_drawAct _ _ a h1 h2 h3).trans (w_f12_keep _ a h0 h4))))) (fp_of21 (((ih _ _ _ _).trans ((w_f12_drawAct _ _ a h1 h2 h3).trans (w_f12_keep _ a h0 h4)))))))
theorem w_f12_decades (σ : SI) (τ : SL) (x1 : Int32) (x2 : Int64) (a : Nat) (h0 : a ≠ 123) (h1 : a ≠ 132) (h2 : a ≠ 133) (h3 : a ≠ 140) (h4 : a ≠ 142) : (f12_decades σ τ x1 x2).2.1 a = σ a := by
  refine fp_to21 ?_
  unfold f12_decades
  exact (fr_ite21 (fr_mk31 rfl) (fr_ite21 (fp_of21 ((w_f12_decades_c30 _ _ a h0 h1 h2 h3 h4 _ _ _ _ _))) (fr_mk31 rfl)))
set_option maxHeartbeats 4000000 in
set_option maxRecDepth 100000 in
theorem c12_decades_c30 {l : Launch} {p : Program} {e : Env} {s : State} {m : MethodId} {args : Array Value} {below : List Frame} {meth : Method} {c : Code} {G : GT} (X : CX p s m args meth c cX12_decades RX12 6 (some .int) G) {E : Int32 × SI × SL} (x1 : Int32) (x2 : Int64) : ∀ (fu : Nat) (v4 : Int32) (v5 : Int32) (σ : SI) (τ : SL) (H : Heap) (locs : List Loc) (ls : Array Slot), IX G s H locs σ τ → lv_has ls 6 [(0, .ref (G.2.1 123)), (1, .int x1), (2, .long x2), (4, .int v4), (5, .int v5)] → (o12_decades_c30 x1 x2 fu v4 v5 σ τ) → (Int32.toInt x1 - Int32.toInt v5).toNat < fu → E = (f12_decades_c30 x1 x2 fu v4 v5 σ τ) → W p l e (rmN 12) s m args below meth c H locs 0 0 (MQ below ((Qi G (Ei E.1 E.2.1 E.2.2)) s.heap.size) args s 0 0 (AW G s.heap.size)) (F0 m 30 ls []) := by
  intro fu
  induction fu with
  | zero =>
    intro v4 v5 σ τ H locs ls I hl  ho hm hE
    exact absurd hm (Nat.not_lt_zero _)
  | succ fu ih =>
    intro v4 v5 σ τ H locs ls I hl  ho hm hE
    unfold o12_decades_c30 at ho
    refine lv_iload X.1 X.2.1 dX12_decades_30 (lv_at hl 4 rfl) ?_
    refine lv_iload_n X.1 X.2.1 dX12_decades_32 rfl (lv_at hl 1 rfl) ?_
    refine lv_icmp_ge (tgt := 63) X.1 X.2.1 dX12_decades_33 (by decide) (fun c_3 => ?_) (fun c_3 => ?_)
    · skip
      have hE := ite_t hE c_3
      have ho := ite_tP ho c_3
      refine lv_iload X.1 X.2.1 dX12_decades_63 (lv_at hl 3 rfl) ?_
      have h9 := hE
      exact r_iret X I (e_i (pr_1 h9) (pr_2 h9) (pr_3 h9)) dX12_decades_65
    · skip
      have hE := ite_f hE c_3
      have ho := ite_fP ho c_3
      refine lv_aload_n X.1 X.2.1 dX12_decades_36 rfl (lv_at hl 0 rfl) ?_
      have ho1 := ho.1
      have ho := ho.2
      refine r_ev I (r_runV X I pk_X12_keep (c12_keep l G _ _ ho1) lm_X12_350 (by decide) (cl_12 rfl) rfl rfl rfl hl.1 rfl (Nat.le_of_ble_eq_true rfl) dX12_decades_37 ⟨Nat.le_of_ble_eq_true rfl, Nat.le_of_ble_eq_true rfl⟩ ⟨Nat.le_refl 0, Nat.le_refl 0⟩) (fun H locs I => ?_)
      refine lv_iload X.1 X.2.1 dX12_decades_40 (lv_at hl 3 rfl) ?_
      refine lv_aload_n X.1 X.2.1 dX12_decades_42 rfl (lv_at hl 0 rfl) ?_
      have ho2 := ho.1
      have ho := ho.2
      refine r_ei I (r_runV X I pk_X12_drawAct (c12_drawAct l G _ _ ho2) lm_X12_370 (by decide) (cl_12 rfl) rfl rfl rfl hl.1 rfl (Nat.le_of_ble_eq_true rfl) dX12_decades_43 ⟨Nat.le_of_ble_eq_true rfl, Nat.le_of_ble_eq_true rfl⟩ ⟨Nat.le_refl 0, Nat.le_refl 0⟩) (fun H locs I => ?_)
      refine lv_if_eq (tgt := 53) X.1 X.2.1 dX12_decades_46 (by decide) (fun c_4 => ?_) (fun c_4 => ?_)
      · skip
        have hE := ite_f hE (b2i_n c_4)
        have ho := ite_fP ho (b2i_n c_4)
        refine lv_iconst (v := 0) X.1 X.2.1 dX12_decades_53 (by decide) ?_
        refine lv_iadd X.1 X.2.1 dX12_decades_54 ?_
        refine lv_istore (lv' := [(4, .int _), (0, .ref _), (1, .int _), (2, .long _), (5, .int _)]) X.1 X.2.1 dX12_decades_55 hl (by decide) rfl (fun ls hl => ?_)
        refine lv_iinc (v := _ + 1) (lv' := [(5, .int _), (4, .int _), (0, .ref _), (1, .int _), (2, .long _)]) X.1 X.2.1 dX12_decades_57 hl (k := 4) rfl rfl (by decide) rfl (fun ls hl => ?_)
        refine lv_goto (tgt := 30) X.1 X.2.1 dX12_decades_60 (by decide) ?_
        exact ih _ _ _ _ _ _ _ I (lv_sub hl [2, 3, 4, 1, 0] rfl) ho (Nat.lt_of_lt_of_le (up_dec c_3) (Nat.le_of_lt_succ hm)) (hE.trans (rfl))
      · skip
        have hE := ite_t hE (b2i_y c_4)
        have ho := ite_tP ho (b2i_y c_4)
        refine lv_iconst (v := 1) X.1 X.2.1 dX12_decades_49 (by decide) ?_
        refine lv_goto (tgt := 54) X.1 X.2.1 dX12_decades_50 (by decide) ?_
        refine lv_iadd X.1 X.2.1 dX12_decades_54 ?_
        refine lv_istore (lv' := [(4, .int _), (0, .ref _), (1, .int _), (2, .long _), (5, .int _)]) X.1 X.2.1 dX12_decades_55 hl (by decide) rfl (fun ls hl => ?_)
        refine lv_iinc (v := _ + 1) (lv' := [(5, .int _), (4, .int _), (0, .ref _), (1, .int _), (2, .long _)]) X.1 X.2.1 dX12_decades_57 hl (k := 4) rfl rfl (by decide) rfl (fun ls hl => ?_)
        refine lv_goto (tgt := 30) X.1 X.2.1 dX12_decades_60 (by decide) ?_
        exact ih _ _ _ _ _ _ _ I (lv_sub hl [2, 3, 4, 1, 0] rfl) ho (Nat.lt_of_lt_of_le (up_dec c_3) (Nat.le_of_lt_succ hm)) (hE.trans (rfl))
set_option maxHeartbeats 4000000 in
set_option maxRecDepth 100000 in
theorem c12_decades (l : Launch) (G : GT) (σ : SI) (τ : SL) (x1 : Int32) (x2 : Int64) (ho : o12_decades σ τ x1 x2) : Mc l yX12_decades cX12_decades 6 (some .int) 12 G [.ref (G.2.1 123), .int x1, .long x2] σ τ (Qi G (Ei (f12_decades σ τ x1 x2).1 (f12_decades σ τ x1 x2).2.1 (f12_decades σ τ x1 x2).2.2)) := by
  refine m_start (by decide +kernel) (Nat.le_of_ble_eq_true rfl) rfl (fun p e s m args below meth c ls X I hl => ?_)
  have hl : lv_has ls 6 [(0, .ref (G.2.1 123)), (1, .int x1), (2, .long x2)] := hl
  obtain ⟨E, hE⟩ : ∃ E, E = (f12_decades σ τ x1 x2) := ⟨_, rfl⟩
  rw [← hE]
  unfold o12_decades at ho
  refine lv_aload_n X.1 X.2.1 dX12_decades_0 rfl (lv_at hl 0 rfl) ?_
  refine g12_25 X I (k := 123) (by decide) rfl lf_X12_264 dX12_decades_1 ?_
  refine lv_if_eq (tgt := 17) X.1 X.2.1 dX12_decades_4 (by decide) (fun c_1 => ?_) (fun c_1 => ?_)
  · skip
    have hE := ite_t hE c_1
    have ho := ite_tP ho c_1
    refine lv_iconst (v := (-1)) X.1 X.2.1 dX12_decades_17 (by decide) ?_
    have h9 := hE
    exact r_iret X I (e_i (pr_1 h9) (pr_2 h9) (pr_3 h9)) dX12_decades_18
  · skip
    have hE := ite_f hE c_1
    have ho := ite_fP ho c_1
    refine lv_iload_n X.1 X.2.1 dX12_decades_7 rfl (lv_at hl 1 rfl) ?_
    refine lv_iconst (v := 1) X.1 X.2.1 dX12_decades_8 (by decide) ?_
    refine lv_bipush (v := 60) X.1 X.2.1 dX12_decades_9 (by decide) ?_
    refine r_ei I (r_runS X I pk_X12_in (c12_in l G _ _ _ _ _) lm_X12_220 rfl hl.1 rfl (Nat.le_of_ble_eq_true rfl) dX12_decades_11 ⟨Nat.le_of_ble_eq_true rfl, Nat.le_of_ble_eq_true rfl⟩ ⟨Nat.le_refl 0, Nat.le_refl 0⟩) (fun H locs I => ?_)
    refine lv_if_ne (tgt := 19) X.1 X.2.1 dX12_decades_14 (by decide) (fun c_2 => ?_) (fun c_2 => ?_)
    · skip
      have hE := ite_t hE (b2i_y c_2)
      have ho := ite_tP ho (b2i_y c_2)
      refine lv_aload_n X.1 X.2.1 dX12_decades_19 rfl (lv_at hl 0 rfl) ?_
      refine lv_lload_n X.1 X.2.1 dX12_decades_20 rfl (lv_at hl 2 rfl) ?_
      refine p12_33 X I (k := 123) (by decide) rfl lf_X12_359 dX12_decades_21 (fun H locs I => ?_)
      refine lv_iconst (v := 0) X.1 X.2.1 dX12_decades_24 (by decide) ?_
      refine lv_istore (lv' := [(4, .int _), (0, .ref _), (1, .int _), (2, .long _)]) X.1 X.2.1 dX12_decades_25 hl (by decide) rfl (fun ls hl => ?_)
      refine lv_iconst (v := 0) X.1 X.2.1 dX12_decades_27 (by decide) ?_
      refine lv_istore (lv' := [(5, .int _), (4, .int _), (0, .ref _), (1, .int _), (2, .long _)]) X.1 X.2.1 dX12_decades_28 hl (by decide) rfl (fun ls hl => ?_)
      exact c12_decades_c30 X _ _ _ _ _ _ _ _ _ _ I (lv_sub hl [2, 3, 4, 1, 0] rfl) ho (fu1_lt _) (hE.trans (rfl))
    · skip
      have hE := ite_f hE (b2i_n c_2)
      have ho := ite_fP ho (b2i_n c_2)
      refine lv_iconst (v := (-1)) X.1 X.2.1 dX12_decades_17 (by decide) ?_
      have h9 := hE
      exact r_iret X I (e_i (pr_1 h9) (pr_2 h9) (pr_3 h9)) dX12_decades_18
noncomputable def f12_status (σ : SI) (x1 : Int32) : Int32 := if (f12_in x1 (0 : Int32) (4 : Int32)) = true then (σ 141 (Int32.toNatClampNeg x1)) else (-1 : Int32)
noncomputable def o12_status (σ : SI) (x1 : Int32) : Prop := if (f12_in x1 (0 : Int32) (4 : Int32)) = true then ((vp_in x1 5) ∧ True) else True
set_option maxHeartbeats 4000000 in
set_option maxRecDepth 100000 in
theorem c12_status (l : Launch) (G : GT) (σ : SI) (τ : SL) (x1 : Int32) (ho : o12_status σ x1) : Mc l yX12_status cX12_status 2 (some .int) 1 G [.ref (G.2.1 123), .int x1] σ τ (Qi G (Ei (f12_status σ x1) σ τ)) := by
  refine m_start (by decide +kernel) (Nat.le_of_ble_eq_true rfl) rfl (fun p e s m args below meth c ls X I hl => ?_)
  have hl : lv_has ls 2 [(0, .ref (G.2.1 123)), (1, .int x1)] := hl
  obtain ⟨E, hE⟩ : ∃ E, E = (f12_status σ x1) := ⟨_, rfl⟩
  rw [← hE]
  unfold o12_status at ho
  refine lv_iload_n X.1 X.2.1 dX12_status_0 rfl (lv_at hl 1 rfl) ?_
  refine lv_iconst (v := 0) X.1 X.2.1 dX12_status_1 (by decide) ?_
  refine lv_iconst (v := 4) X.1 X.2.1 dX12_status_2 (by decide) ?_
  refine r_ei I (r_runS X I pk_X12_in (c12_in l G _ _ _ _ _) lm_X12_220 rfl hl.1 rfl (Nat.le_of_ble_eq_true rfl) dX12_status_3 ⟨Nat.le_of_ble_eq_true rfl, Nat.le_of_ble_eq_true rfl⟩ ⟨Nat.le_refl 0, Nat.le_refl 0⟩) (fun H locs I => ?_)
  refine lv_if_eq (tgt := 18) X.1 X.2.1 dX12_status_6 (by decide) (fun c_1 => ?_) (fun c_1 => ?_)
  · skip
    have hE := ite_f hE (b2i_n c_1)
    have ho := ite_fP ho (b2i_n c_1)
    refine lv_iconst (v := (-1)) X.1 X.2.1 dX12_status_18 (by decide) ?_
    have h9 := hE
    exact r_iret X I (e_i h9.symm rfl rfl) dX12_status_19
  · skip
    have hE := ite_t hE (b2i_y c_1)
    have ho := ite_tP ho (b2i_y c_1)
    refine lv_aload_n X.1 X.2.1 dX12_status_9 rfl (lv_at hl 0 rfl) ?_
    refine g12_28 X I (k := 123) (by decide) rfl lf_X12_61 dX12_status_10 ?_
    refine lv_iload_n X.1 X.2.1 dX12_status_13 rfl (lv_at hl 1 rfl) ?_
    have ho1 := ho.1
    have ho := ho.2
    refine r_ald X I (k := 141) (n := 5) (by decide) rfl ho1 dX12_status_14 ?_
    refine lv_goto (tgt := 19) X.1 X.2.1 dX12_status_15 (by decide) ?_
    have h9 := hE
    exact r_iret X I (e_i h9.symm rfl rfl) dX12_status_19
noncomputable def f12_undo_c21 : Nat → Int32 → SI → (Int32 × SI)
  | 0, _, σ => (0, σ)
  | fu + 1, v1, σ => if (255 : Int32) ≤ v1 then ((σ 123 32), σ) else (let s1 := sp σ 140 (Int32.toNatClampNeg v1) (σ 142 (Int32.toNatClampNeg (((255 : Int32) * (σ 123 32)) + v1))); (f12_undo_c21 fu (v1 + 1) s1))
noncomputable def o12_undo_c21 : Nat → Int32 → SI → Prop
  | 0, _, _ => True
  | fu + 1, v1, σ => if (255 : Int32) ≤ v1 then True else ((vp_in (((255 : Int32) * (σ 123 32)) + v1) 10200) ∧ ((vp_in v1 255) ∧ (let s1 := sp σ 140 (Int32.toNatClampNeg v1) (σ 142 (Int32.toNatClampNeg (((255 : Int32) * (σ 123 32)) + v1))); (o12_undo_c21 fu (v1 + 1) s1))))
noncomputable def f12_undo (σ : SI) : Int32 × SI := if (σ 123 32) = (0 : Int32) then ((-1 : Int32), σ) else (let s0 := sp σ 123 32 ((σ 123 32) - (1 : Int32)); (f12_undo_c21 (fu1 ((Int32.toInt (255 : Int32) - Int32.toInt (0 : Int32)).toNat)) (0 : Int32) s0))
noncomputable def o12_undo (σ : SI) : Prop := if (σ 123 32) = (0 : Int32) then True else (let s0 := sp σ 123 32 ((σ 123 32) - (1 : Int32)); (o12_undo_c21 (fu1 ((Int32.toInt (255 : Int32) - Int32.toInt (0 : Int32)).toNat)) (0 : Int32) s0))
theorem w_f12_undo_c21 (a : Nat) (h0 : a ≠ 123) (h1 : a ≠ 140) : ∀ (fu : Nat) (v1 : Int32) (σ : SI), (f12_undo_c21 fu v1 σ).2 a = σ a := by
  intro fu
  induction fu with
  | zero => intro v1 σ; exact rfl
  | succ fu ih =>
    intro v1 σ
    refine fp_to2 ?_
    unfold f12_undo_c21
    exact (fr_ite2 (fr_mk21 rfl) (fp_of2 (((ih _ _).trans (sp_n h1)))))
theorem w_f12_undo (σ : SI) (a : Nat) (h0 : a ≠ 123) (h1 : a ≠ 140) : (f12_undo σ).2 a = σ a := by
  refine fp_to2 ?_
  unfold f12_undo
  exact (fr_ite2 (fr_mk21 rfl) (fp_of2 (((w_f12_undo_c21 a h0 h1 _ _ _).trans (sp_n h0)))))
set_option maxHeartbeats 4000000 in
set_option maxRecDepth 100000 in
theorem c12_undo_c21 {l : Launch} {p : Program} {e : Env} {s : State} {m : MethodId} {args : Array Value} {below : List Frame} {meth : Method} {c : Code} {G : GT} (X : CX p s m args meth c cX12_undo RX12 2 (some .int) G) {E : Int32 × SI} (τ : SL) : ∀ (fu : Nat) (v1 : Int32) (σ : SI) (H : Heap) (locs : List Loc) (ls : Array Slot), IX G s H locs σ τ → lv_has ls 2 [(0, .ref (G.2.1 123)), (1, .int v1)] → (o12_undo_c21 fu v1 σ) → (Int32.toInt (255 : Int32) - Int32.toInt v1).toNat < fu → E = (f12_undo_c21 fu v1 σ) → W p l e (rmN 0) s m args below meth c H locs 0 0 (MQ below ((Qi G (Ei E.1 E.2 τ)) s.heap.size) args s 0 0 (AW G s.heap.size)) (F0 m 21 ls []) := by
  intro fu
  induction fu with
  | zero =>
    intro v1 σ H locs ls I hl  ho hm hE
    exact absurd hm (Nat.not_lt_zero _)
  | succ fu ih =>
    intro v1 σ H locs ls I hl  ho hm hE
    unfold o12_undo_c21 at ho
    refine lv_iload_n X.1 X.2.1 dX12_undo_21 rfl (lv_at hl 1 rfl) ?_
    refine lv_sipush (v := 255) X.1 X.2.1 dX12_undo_22 (by decide) ?_
    refine lv_icmp_ge (tgt := 55) X.1 X.2.1 dX12_undo_25 (by decide) (fun c_2 => ?_) (fun c_2 => ?_)
    · skip
      have hE := ite_t hE c_2
      have ho := ite_tP ho c_2
      refine lv_aload_n X.1 X.2.1 dX12_undo_55 rfl (lv_at hl 0 rfl) ?_
      refine g12_32 X I (k := 123) (by decide) rfl lf_X12_279 dX12_undo_56 ?_
      have h9 := hE
      exact r_iret X I (e_i (pr_fst h9) (pr_snd h9) rfl) dX12_undo_59
    · skip
      have hE := ite_f hE c_2
      have ho := ite_fP ho c_2
      refine lv_aload_n X.1 X.2.1 dX12_undo_28 rfl (lv_at hl 0 rfl) ?_
      refine g12_27 X I (k := 123) (by decide) rfl lf_X12_58 dX12_undo_29 ?_
      refine lv_iload_n X.1 X.2.1 dX12_undo_32 rfl (lv_at hl 1 rfl) ?_
      refine lv_aload_n X.1 X.2.1 dX12_undo_33 rfl (lv_at hl 0 rfl) ?_
      refine g12_31 X I (k := 123) (by decide) rfl lf_X12_71 dX12_undo_34 ?_
      refine lv_sipush (v := 255) X.1 X.2.1 dX12_undo_37 (by decide) ?_
      refine lv_aload_n X.1 X.2.1 dX12_undo_40 rfl (lv_at hl 0 rfl) ?_
      refine g12_32 X I (k := 123) (by decide) rfl lf_X12_279 dX12_undo_41 ?_
      refine lv_imul X.1 X.2.1 dX12_undo_44 ?_
      refine lv_iload_n X.1 X.2.1 dX12_undo_45 rfl (lv_at hl 1 rfl) ?_
      refine lv_iadd X.1 X.2.1 dX12_undo_46 ?_
      have ho1 := ho.1
      have ho := ho.2
      refine r_ald X I (k := 142) (n := 10200) (by decide) rfl ho1 dX12_undo_47 ?_
      have ho2 := ho.1
      have ho := ho.2
      refine r_ast X I (k := 140) (n := 255) (by decide) rfl ho2 dX12_undo_48 (fun H locs I => ?_)
      refine lv_iinc (v := _ + 1) (lv' := [(1, .int _), (0, .ref _)]) X.1 X.2.1 dX12_undo_49 hl (k := 1) rfl rfl (by decide) rfl (fun ls hl => ?_)
      refine lv_goto (tgt := 21) X.1 X.2.1 dX12_undo_52 (by decide) ?_
      exact ih _ _ _ _ _ I (lv_sub hl [1, 0] rfl) ho (Nat.lt_of_lt_of_le (up_dec c_2) (Nat.le_of_lt_succ hm)) (hE.trans (rfl))
set_option maxHeartbeats 4000000 in
set_option maxRecDepth 100000 in
theorem c12_undo (l : Launch) (G : GT) (σ : SI) (τ : SL) (ho : o12_undo σ) : Mc l yX12_undo cX12_undo 2 (some .int) 0 G [.ref (G.2.1 123)] σ τ (Qi G (Ei (f12_undo σ).1 (f12_undo σ).2 τ)) := by
  refine m_start (by decide +kernel) (Nat.le_of_ble_eq_true rfl) rfl (fun p e s m args below meth c ls X I hl => ?_)
  have hl : lv_has ls 2 [(0, .ref (G.2.1 123))] := hl
  obtain ⟨E, hE⟩ : ∃ E, E = (f12_undo σ) := ⟨_, rfl⟩
  rw [← hE]
  unfold o12_undo at ho
  refine lv_aload_n X.1 X.2.1 dX12_undo_0 rfl (lv_at hl 0 rfl) ?_
  refine g12_32 X I (k := 123) (by decide) rfl lf_X12_279 dX12_undo_1 ?_
  refine lv_if_ne (tgt := 9) X.1 X.2.1 dX12_undo_4 (by decide) (fun c_1 => ?_) (fun c_1 => ?_)
  · skip
    have hE := ite_f hE c_1
    have ho := ite_fP ho c_1
    refine lv_aload_n X.1 X.2.1 dX12_undo_9 rfl (lv_at hl 0 rfl) ?_
    refine lv_dup X.1 X.2.1 dX12_undo_10 rfl ?_
    refine g12_32 X I (k := 123) (by decide) rfl lf_X12_279 dX12_undo_11 ?_
    refine lv_iconst (v := 1) X.1 X.2.1 dX12_undo_14 (by decide) ?_
    refine lv_isub X.1 X.2.1 dX12_undo_15 ?_
    refine p12_32 X I (k := 123) (by decide) rfl lf_X12_279 dX12_undo_16 (fun H locs I => ?_)
    refine lv_iconst (v := 0) X.1 X.2.1 dX12_undo_19 (by decide) ?_
    refine lv_istore_n (lv' := [(1, .int _), (0, .ref _)]) X.1 X.2.1 dX12_undo_20 rfl hl (by decide) rfl (fun ls hl => ?_)
    exact c12_undo_c21 X _  _ _ _ _ _ _ I (lv_sub hl [1, 0] rfl) ho (fu1_lt _) (hE.trans (rfl))
  · skip
    have hE := ite_t hE c_1
    have ho := ite_tP ho c_1
    refine lv_iconst (v := (-1)) X.1 X.2.1 dX12_undo_7 (by decide) ?_
    have h9 := hE
    exact r_iret X I (e_i (pr_fst h9) (pr_snd h9) rfl) dX12_undo_8
noncomputable def f12_log (σ : SI) (x1 : Int32) (x2 : Int32) : Int32 := if (f12_in x1 (0 : Int32) ((σ 140 14) - (1 : Int32))) = true then (if (f12_in x2 (0 : Int32) (3 : Int32)) = true then (σ 140 (Int32.toNatClampNeg (((15 : Int32) + ((4 : Int32) * (((σ 140 14) - (1 : Int32)) - x1))) + x2))) else (-1 : Int32)) else (-1 : Int32)
noncomputable def o12_log (σ : SI) (x1 : Int32) (x2 : Int32) : Prop := if (f12_in x1 (0 : Int32) ((σ 140 14) - (1 : Int32))) = true then (if (f12_in x2 (0 : Int32) (3 : Int32)) = true then ((vp_in (((15 : Int32) + ((4 : Int32) * (((σ 140 14) - (1 : Int32)) - x1))) + x2) 255) ∧ True) else True) else True
set_option maxHeartbeats 4000000 in
set_option maxRecDepth 100000 in
theorem c12_log (l : Launch) (G : GT) (σ : SI) (τ : SL) (x1 : Int32) (x2 : Int32) (ho : o12_log σ x1 x2) : Mc l yX12_log cX12_log 3 (some .int) 1 G [.ref (G.2.1 123), .int x1, .int x2] σ τ (Qi G (Ei (f12_log σ x1 x2) σ τ)) := by
  refine m_start (by decide +kernel) (Nat.le_of_ble_eq_true rfl) rfl (fun p e s m args below meth c ls X I hl => ?_)
  have hl : lv_has ls 3 [(0, .ref (G.2.1 123)), (1, .int x1), (2, .int x2)] := hl
  obtain ⟨E, hE⟩ : ∃ E, E = (f12_log σ x1 x2) := ⟨_, rfl⟩
  rw [← hE]
  unfold o12_log at ho
  refine lv_iload_n X.1 X.2.1 dX12_log_0 rfl (lv_at hl 1 rfl) ?_
  refine lv_iconst (v := 0) X.1 X.2.1 dX12_log_1 (by decide) ?_
  refine lv_aload_n X.1 X.2.1 dX12_log_2 rfl (lv_at hl 0 rfl) ?_
  refine g12_27 X I (k := 123) (by decide) rfl lf_X12_58 dX12_log_3 ?_
  refine lv_bipush (v := 14) X.1 X.2.1 dX12_log_6 (by decide) ?_
  refine r_ald X I (k := 140) (n := 255) (by decide) rfl (by unfold vp_in; decide) dX12_log_8 ?_
  refine lv_iconst (v := 1) X.1 X.2.1 dX12_log_9 (by decide) ?_
  refine lv_isub X.1 X.2.1 dX12_log_10 ?_
  refine r_ei I (r_runS X I pk_X12_in (c12_in l G _ _ _ _ _) lm_X12_220 rfl hl.1 rfl (Nat.le_of_ble_eq_true rfl) dX12_log_11 ⟨Nat.le_of_ble_eq_true rfl, Nat.le_of_ble_eq_true rfl⟩ ⟨Nat.le_refl 0, Nat.le_refl 0⟩) (fun H locs I => ?_)
  refine lv_if_eq (tgt := 52) X.1 X.2.1 dX12_log_14 (by decide) (fun c_1 => ?_) (fun c_1 => ?_)
  · skip
    have hE := ite_f hE (b2i_n c_1)
    have ho := ite_fP ho (b2i_n c_1)
    refine lv_iconst (v := (-1)) X.1 X.2.1 dX12_log_52 (by decide) ?_
    have h9 := hE
    exact r_iret X I (e_i h9.symm rfl rfl) dX12_log_53
  · skip
    have hE := ite_t hE (b2i_y c_1)
    have ho := ite_tP ho (b2i_y c_1)
    refine lv_iload_n X.1 X.2.1 dX12_log_17 rfl (lv_at hl 2 rfl) ?_
    refine lv_iconst (v := 0) X.1 X.2.1 dX12_log_18 (by decide) ?_
    refine lv_iconst (v := 3) X.1 X.2.1 dX12_log_19 (by decide) ?_
    refine r_ei I (r_runS X I pk_X12_in (c12_in l G _ _ _ _ _) lm_X12_220 rfl hl.1 rfl (Nat.le_of_ble_eq_true rfl) dX12_log_20 ⟨Nat.le_of_ble_eq_true rfl, Nat.le_of_ble_eq_true rfl⟩ ⟨Nat.le_refl 0, Nat.le_refl 0⟩) (fun H locs I => ?_)
    refine lv_if_eq (tgt := 52) X.1 X.2.1 dX12_log_23 (by decide) (fun c_2 => ?_) (fun c_2 => ?_)
    · skip
      have hE := ite_f hE (b2i_n c_2)
      have ho := ite_fP ho (b2i_n c_2)
      refine lv_iconst (v := (-1)) X.1 X.2.1 dX12_log_52 (by decide) ?_
      have h9 := hE
      exact r_iret X I (e_i h9.symm rfl rfl) dX12_log_53
    · skip
      have hE := ite_t hE (b2i_y c_2)
      have ho := ite_tP ho (b2i_y c_2)
      refine lv_aload_n X.1 X.2.1 dX12_log_26 rfl (lv_at hl 0 rfl) ?_
      refine g12_27 X I (k := 123) (by decide) rfl lf_X12_58 dX12_log_27 ?_
      refine lv_bipush (v := 15) X.1 X.2.1 dX12_log_30 (by decide) ?_
      refine lv_iconst (v := 4) X.1 X.2.1 dX12_log_32 (by decide) ?_
      refine lv_aload_n X.1 X.2.1 dX12_log_33 rfl (lv_at hl 0 rfl) ?_
      refine g12_27 X I (k := 123) (by decide) rfl lf_X12_58 dX12_log_34 ?_
      refine lv_bipush (v := 14) X.1 X.2.1 dX12_log_37 (by decide) ?_
      refine r_ald X I (k := 140) (n := 255) (by decide) rfl (by unfold vp_in; decide) dX12_log_39 ?_
      refine lv_iconst (v := 1) X.1 X.2.1 dX12_log_40 (by decide) ?_
      refine lv_isub X.1 X.2.1 dX12_log_41 ?_
      refine lv_iload_n X.1 X.2.1 dX12_log_42 rfl (lv_at hl 1 rfl) ?_
      refine lv_isub X.1 X.2.1 dX12_log_43 ?_
      refine lv_imul X.1 X.2.1 dX12_log_44 ?_
      refine lv_iadd X.1 X.2.1 dX12_log_45 ?_
      refine lv_iload_n X.1 X.2.1 dX12_log_46 rfl (lv_at hl 2 rfl) ?_
      refine lv_iadd X.1 X.2.1 dX12_log_47 ?_
      have ho1 := ho.1
      have ho := ho.2
      refine r_ald X I (k := 140) (n := 255) (by decide) rfl ho1 dX12_log_48 ?_
      refine lv_goto (tgt := 53) X.1 X.2.1 dX12_log_49 (by decide) ?_
      have h9 := hE
      exact r_iret X I (e_i h9.symm rfl rfl) dX12_log_53
