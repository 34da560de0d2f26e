noncomputable def f8_clear_c24 (k : Nat) (K : Int32 → SI → SI) : Nat → Int32 → SI → SI
  | 0, v1, σ => (K v1 σ)
  | fu + 1, v1, σ => if (36 : Int32) ≤ v1 then (K v1 σ) else (let s0 := (f8_put k σ v1 (0 : Int32)); (f8_clear_c24 k K fu (v1 + 1) s0))
noncomputable def f8_clear_c2 (k : Nat) : Nat → Int32 → SI → SI
  | 0, _, σ => σ
  | fu + 1, v1, σ => if (3 : Int32) ≤ v1 then (f8_clear_c24 k (fun (y1_1 : Int32) (σk1 : SI) => let s1 := (f8_putUsual k σk1 (0 : Int32) (0 : Int32)); s1) (fu1 ((Int32.toInt (36 : Int32) - Int32.toInt (0 : Int32)).toNat)) (0 : Int32) σ) else (let s2 := (f11_setCell (k + 2) 3 σ v1 (0 : Int32)); (f8_clear_c2 k fu (v1 + 1) s2))
noncomputable def f8_clear (k : Nat) (σ : SI) : SI := (f8_clear_c2 k (fu1 ((Int32.toInt (3 : Int32) - Int32.toInt (0 : Int32)).toNat)) (0 : Int32) σ)
theorem w_f8_clear_c24 {k : Nat} {K : Int32 → SI → SI} (a : Nat) (h0 : a ≠ (k + 1)) (h1 : a ≠ (k + 2)) (hK : ∀ (v1 : Int32) (σ : SI), (K v1 σ) a = σ a) : ∀ (fu : Nat) (v1 : Int32) (σ : SI), (f8_clear_c24 k K fu v1 σ) a = σ a := by
  intro fu
  induction fu with
  | zero => intro v1 σ; exact hK v1 σ
  | succ fu ih =>
    intro v1 σ
    unfold f8_clear_c24
    exact (fr_ite (hK _ _) ((ih _ _).trans (w_f8_put _ _ _ a h0)))
theorem w_f8_clear_c2 {k : Nat} (a : Nat) (h0 : a ≠ (k + 1)) (h1 : a ≠ (k + 2)) : ∀ (fu : Nat) (v1 : Int32) (σ : SI), (f8_clear_c2 k fu v1 σ) a = σ a := by
  intro fu
  induction fu with
  | zero => intro v1 σ; exact rfl
  | succ fu ih =>
    intro v1 σ
    unfold f8_clear_c2
    exact (fr_ite (w_f8_clear_c24 a h0 h1 (fun y1_1 σk1 => (w_f8_putUsual _ _ _ a h0)) _ _ _) ((ih _ _).trans (w_f11_setCell _ _ _ a h1)))
theorem w_f8_clear {k : Nat} (σ : SI) (a : Nat) (h0 : a ≠ (k + 1)) (h1 : a ≠ (k + 2)) : (f8_clear k σ) a = σ a := by
  unfold f8_clear
  exact (w_f8_clear_c2 a h0 h1 _ _ _)
set_option maxHeartbeats 4000000 in
set_option maxRecDepth 100000 in
theorem c8_clear_c24 {l : Launch} {p : Program} {e : Env} {s : State} {m : MethodId} {args : Array Value} {below : List Frame} {meth : Method} {c : Code} {G : GT} (X : CX p s m args meth c cX8_clear RX8 2 none G) {k : Nat} (hk : isTown k) {E : SI} (τ : SL) {K : Int32 → SI → SI} (hK : ∀ (v1 : Int32) (σ : SI) (H : Heap) (locs : List Loc) (ls : Array Slot), IX G s H locs σ τ → lv_has ls 2 [(0, .ref (G.2.1 k)), (1, .int v1)] → E = K v1 σ → W p l e (rmN 3) s m args below meth c H locs 0 0 (MQ below ((Qv G (Ev E τ)) s.heap.size) args s 0 0 (AW G s.heap.size)) (F0 m 42 ls [])) : ∀ (fu : Nat) (v1 : Int32) (σ : SI) (H : Heap) (locs : List Loc) (ls : Array Slot), IX G s H locs σ τ → lv_has ls 2 [(0, .ref (G.2.1 k)), (1, .int v1)] → (Int32.toInt (36 : Int32) - Int32.toInt v1).toNat < fu → E = (f8_clear_c24 k K fu v1 σ) → W p l e (rmN 3) s m args below meth c H locs 0 0 (MQ below ((Qv G (Ev E τ)) s.heap.size) args s 0 0 (AW G s.heap.size)) (F0 m 24 ls []) := by
  intro fu
  induction fu with
  | zero =>
    intro v1 σ H locs ls I hl  hm hE
    exact absurd hm (Nat.not_lt_zero _)
  | succ fu ih =>
    intro v1 σ H locs ls I hl  hm hE
    refine lv_iload_n X.1 X.2.1 dX8_clear_24 rfl (lv_at hl 1 rfl) ?_
    refine lv_bipush (v := 36) X.1 X.2.1 dX8_clear_25 (by decide) ?_
    refine lv_icmp_ge (tgt := 42) X.1 X.2.1 dX8_clear_27 (by decide) (fun c_2 => ?_) (fun c_2 => ?_)
    · skip
      have hE := ite_t hE c_2
      exact hK _ _ _ _ _ I (lv_sub hl [0, 1] rfl) (hE.trans (rfl))
    · skip
      have hE := ite_f hE c_2
      refine lv_aload_n X.1 X.2.1 dX8_clear_30 rfl (lv_at hl 0 rfl) ?_
      refine lv_iload_n X.1 X.2.1 dX8_clear_31 rfl (lv_at hl 1 rfl) ?_
      refine lv_iconst (v := 0) X.1 X.2.1 dX8_clear_32 (by decide) ?_
      refine r_ev I (r_runV X I pk_X8_put (c8_put l G (k := k) hk _ _ _ _) lm_X8_22 (Nat.lt_of_le_of_lt (Nat.add_le_add_left (show 0 ≤ 2 by decide) k) hk.1) (cl_8 hk.2.1) rfl rfl rfl hl.1 rfl (Nat.le_of_ble_eq_true rfl) dX8_clear_33 ⟨Nat.le_of_ble_eq_true rfl, Nat.le_of_ble_eq_true rfl⟩ ⟨Nat.le_refl 0, Nat.le_refl 0⟩) (fun H locs I => ?_)
      refine lv_iinc (v := _ + 1) (lv' := [(1, .int _), (0, .ref _)]) X.1 X.2.1 dX8_clear_36 hl (k := 1) rfl rfl (by decide) rfl (fun ls hl => ?_)
      refine lv_goto (tgt := 24) X.1 X.2.1 dX8_clear_39 (by decide) ?_
      exact ih _ _ _ _ _ I (lv_sub hl [1, 0] rfl) (Nat.lt_of_lt_of_le (up_dec c_2) (Nat.le_of_lt_succ hm)) (hE.trans (rfl))
set_option maxHeartbeats 4000000 in
set_option maxRecDepth 100000 in
theorem c8_clear_c2 {l : Launch} {p : Program} {e : Env} {s : State} {m : MethodId} {args : Array Value} {below : List Frame} {meth : Method} {c : Code} {G : GT} (X : CX p s m args meth c cX8_clear RX8 2 none G) {k : Nat} (hk : isTown k) {E : SI} (τ : SL) : ∀ (fu : Nat) (v1 : Int32) (σ : SI) (H : Heap) (locs : List Loc) (ls : Array Slot), IX G s H locs σ τ → lv_has ls 2 [(0, .ref (G.2.1 k)), (1, .int v1)] → (Int32.toInt (3 : Int32) - Int32.toInt v1).toNat < fu → E = (f8_clear_c2 k fu v1 σ) → W p l e (rmN 3) s m args below meth c H locs 0 0 (MQ below ((Qv G (Ev E τ)) s.heap.size) args s 0 0 (AW G s.heap.size)) (F0 m 2 ls []) := by
  intro fu
  induction fu with
  | zero =>
    intro v1 σ H locs ls I hl  hm hE
    exact absurd hm (Nat.not_lt_zero _)
  | succ fu ih =>
    intro v1 σ H locs ls I hl  hm hE
    refine lv_iload_n X.1 X.2.1 dX8_clear_2 rfl (lv_at hl 1 rfl) ?_
    refine lv_iconst (v := 3) X.1 X.2.1 dX8_clear_3 (by decide) ?_
    refine lv_icmp_ge (tgt := 22) X.1 X.2.1 dX8_clear_4 (by decide) (fun c_1 => ?_) (fun c_1 => ?_)
    · skip
      have hE := ite_t hE c_1
      refine lv_iconst (v := 0) X.1 X.2.1 dX8_clear_22 (by decide) ?_
      refine lv_istore_n (lv' := [(1, .int _), (0, .ref _)]) X.1 X.2.1 dX8_clear_23 rfl hl (by decide) rfl (fun ls hl => ?_)
      refine c8_clear_c24 X hk _  (fun y1_1 σk1 H locs ls I hl hE => ?_) _ _ _ _ _ _ I (lv_sub hl [1, 0] rfl) (fu1_lt _) (hE.trans (rfl))
      refine lv_aload_n X.1 X.2.1 dX8_clear_42 rfl (lv_at hl 0 rfl) ?_
      refine lv_iconst (v := 0) X.1 X.2.1 dX8_clear_43 (by decide) ?_
      refine lv_iconst (v := 0) X.1 X.2.1 dX8_clear_44 (by decide) ?_
      refine r_ev I (r_runV X I pk_X8_putUsual (c8_putUsual l G (k := k) hk _ _ _ _) lm_X8_26 (Nat.lt_of_le_of_lt (Nat.add_le_add_left (show 0 ≤ 2 by decide) k) hk.1) (cl_8 hk.2.1) rfl rfl rfl hl.1 rfl (Nat.le_of_ble_eq_true rfl) dX8_clear_45 ⟨Nat.le_of_ble_eq_true rfl, Nat.le_of_ble_eq_true rfl⟩ ⟨Nat.le_refl 0, Nat.le_refl 0⟩) (fun H locs I => ?_)
      have h9 := hE
      exact r_vret X I (e_v h9.symm rfl) dX8_clear_48
    · skip
      have hE := ite_f hE c_1
      refine lv_aload_n X.1 X.2.1 dX8_clear_7 rfl (lv_at hl 0 rfl) ?_
      refine g8_1 X I (k := k) (Nat.lt_of_le_of_lt (Nat.add_le_add_left (show 0 ≤ 2 by decide) k) hk.1) hk.2.1 lf_X8_15 dX8_clear_8 ?_
      refine lv_iload_n X.1 X.2.1 dX8_clear_11 rfl (lv_at hl 1 rfl) ?_
      refine lv_iconst (v := 0) X.1 X.2.1 dX8_clear_12 (by decide) ?_
      refine r_ev I (r_runN X I pk_X11_setCell (c11_setCell l G (k := (k + 2)) (n := 3) (Nat.lt_of_le_of_lt (Nat.add_le_add_left (show 2 ≤ 2 by decide) k) hk.1) hk.2.2.2 (by decide) _ _ _ _) (by decide +kernel) rfl hl.1 rfl (Nat.le_of_ble_eq_true rfl) dX8_clear_13 ⟨Nat.le_of_ble_eq_true rfl, Nat.le_of_ble_eq_true rfl⟩ ⟨Nat.le_refl 0, Nat.le_refl 0⟩) (fun H locs I => ?_)
      refine lv_iinc (v := _ + 1) (lv' := [(1, .int _), (0, .ref _)]) X.1 X.2.1 dX8_clear_16 hl (k := 1) rfl rfl (by decide) rfl (fun ls hl => ?_)
      refine lv_goto (tgt := 2) X.1 X.2.1 dX8_clear_19 (by decide) ?_
      exact ih _ _ _ _ _ I (lv_sub hl [1, 0] rfl) (Nat.lt_of_lt_of_le (up_dec c_1) (Nat.le_of_lt_succ hm)) (hE.trans (rfl))
set_option maxHeartbeats 4000000 in
set_option maxRecDepth 100000 in
theorem c8_clear (l : Launch) (G : GT) {k : Nat} (hk : isTown k) (σ : SI) (τ : SL) : Mc l yX8_clear cX8_clear 2 none 3 G [.ref (G.2.1 k)] σ τ (Qv G (Ev (f8_clear k σ) τ)) := by
  refine m_start (by decide +kernel) (Nat.le_of_ble_eq_true rfl) rfl (fun p e s m args below meth c ls X I hl => ?_)
  have hl : lv_has ls 2 [(0, .ref (G.2.1 k))] := hl
  obtain ⟨E, hE⟩ : ∃ E, E = (f8_clear k σ) := ⟨_, rfl⟩
  rw [← hE]
  refine lv_iconst (v := 0) X.1 X.2.1 dX8_clear_0 (by decide) ?_
  refine lv_istore_n (lv' := [(1, .int _), (0, .ref _)]) X.1 X.2.1 dX8_clear_1 rfl hl (by decide) rfl (fun ls hl => ?_)
  exact c8_clear_c2 X hk _  _ _ _ _ _ _ I (lv_sub hl [1, 0] rfl) (fu1_lt _) (hE.trans (rfl))
noncomputable def f8_copy (k : Nat) (k1 : Nat) (σ : SI) : SI := let s0 := su σ (k + 1) (va_cpy (σ (k1 + 1)) (σ (k + 1)) 0 0 36); let s1 := su s0 (k + 2) (va_cpy (s0 (k1 + 2)) (s0 (k + 2)) 0 0 3); s1
theorem w_f8_copy {k : Nat} {k1 : Nat} (σ : SI) (a : Nat) (h0 : a ≠ (k + 1)) (h1 : a ≠ (k + 2)) : (f8_copy k k1 σ) a = σ a := by
  unfold f8_copy
  exact ((su_n _ _ h1).trans (su_n _ _ h0))
set_option maxHeartbeats 4000000 in
set_option maxRecDepth 100000 in
theorem c8_copy (l : Launch) (G : GT) {k : Nat} (hk : isTown k) {k1 : Nat} (hk1 : isTown k1) (σ : SI) (τ : SL) : Mc l yX8_copy cX8_copy 2 none 2 G [.ref (G.2.1 k), .ref (G.2.1 k1)] σ τ (Qv G (Ev (f8_copy k k1 σ) τ)) := by
  refine m_start (by decide +kernel) (Nat.le_of_ble_eq_true rfl) rfl (fun p e s m args below meth c ls X I hl => ?_)
  have hl : lv_has ls 2 [(0, .ref (G.2.1 k)), (1, .ref (G.2.1 k1))] := hl
  obtain ⟨E, hE⟩ : ∃ E, E = (f8_copy k k1 σ) := ⟨_, rfl⟩
  rw [← hE]
  refine lv_aload_n X.1 X.2.1 dX8_copy_0 rfl (lv_at hl 1 rfl) ?_
  refine g8_0 X I (k := k1) (Nat.lt_of_le_of_lt (Nat.add_le_add_left (show 0 ≤ 2 by decide) k1) hk1.1) hk1.2.1 lf_X8_9 dX8_copy_1 ?_
  refine lv_iconst (v := 0) X.1 X.2.1 dX8_copy_4 (by decide) ?_
  refine lv_aload_n X.1 X.2.1 dX8_copy_5 rfl (lv_at hl 0 rfl) ?_
  refine g8_0 X I (k := k) (Nat.lt_of_le_of_lt (Nat.add_le_add_left (show 0 ≤ 2 by decide) k) hk.1) hk.2.1 lf_X8_9 dX8_copy_6 ?_
  refine lv_iconst (v := 0) X.1 X.2.1 dX8_copy_9 (by decide) ?_
  refine lv_bipush (v := 36) X.1 X.2.1 dX8_copy_10 (by decide) ?_
  refine r_copy X I hl.1 (k0 := (k1 + 1)) (n0 := 36) (k1 := (k + 1)) (n1 := 36) (Nat.lt_of_le_of_lt (Nat.add_le_add_left (show 1 ≤ 2 by decide) k1) hk1.1) hk1.2.2.1 (Nat.lt_of_le_of_lt (Nat.add_le_add_left (show 1 ≤ 2 by decide) k) hk.1) hk.2.2.1 (N := 36) (n := 36) (by decide) (by decide) (by decide) rfl (Nat.le_of_ble_eq_true rfl) (Nat.le_of_ble_eq_true rfl) lm_X8_29 dX8_copy_12 (Nat.le_of_ble_eq_true rfl) (Nat.le_of_ble_eq_true rfl) (fun H locs I => ?_)
  refine lv_aload_n X.1 X.2.1 dX8_copy_15 rfl (lv_at hl 1 rfl) ?_
  refine g8_1 X I (k := k1) (Nat.lt_of_le_of_lt (Nat.add_le_add_left (show 0 ≤ 2 by decide) k1) hk1.1) hk1.2.1 lf_X8_15 dX8_copy_16 ?_
  refine lv_iconst (v := 0) X.1 X.2.1 dX8_copy_19 (by decide) ?_
  refine lv_aload_n X.1 X.2.1 dX8_copy_20 rfl (lv_at hl 0 rfl) ?_
  refine g8_1 X I (k := k) (Nat.lt_of_le_of_lt (Nat.add_le_add_left (show 0 ≤ 2 by decide) k) hk.1) hk.2.1 lf_X8_15 dX8_copy_21 ?_
  refine lv_iconst (v := 0) X.1 X.2.1 dX8_copy_24 (by decide) ?_
  refine lv_iconst (v := 3) X.1 X.2.1 dX8_copy_25 (by decide) ?_
  refine r_copy X I hl.1 (k0 := (k1 + 2)) (n0 := 3) (k1 := (k + 2)) (n1 := 3) (Nat.lt_of_le_of_lt (Nat.add_le_add_left (show 2 ≤ 2 by decide) k1) hk1.1) hk1.2.2.2 (Nat.lt_of_le_of_lt (Nat.add_le_add_left (show 2 ≤ 2 by decide) k) hk.1) hk.2.2.2 (N := 3) (n := 3) (by decide) (by decide) (by decide) rfl (Nat.le_of_ble_eq_true rfl) (Nat.le_of_ble_eq_true rfl) lm_X8_29 dX8_copy_26 (Nat.le_of_ble_eq_true rfl) (Nat.le_of_ble_eq_true rfl) (fun H locs I => ?_)
  have h9 := hE
  exact r_vret X I (e_v h9.symm rfl) dX8_copy_29
noncomputable def f8_open (k : Nat) (σ : SI) (x1 : Int32) : Int32 × SI := if x1 < (0 : Int32) then ((-1 : Int32), σ) else (if (3 : Int32) ≤ x1 then ((-1 : Int32), σ) else (if (f11_cell (k + 2) 3 σ x1) < (f11_cellS 1 x1) then (let s0 := (f8_putUsual k σ x1 ((f11_cellS 2 x1) + ((f11_cell (k + 2) 3 σ x1) * (f11_cellS 3 x1)))); let s1 := (f11_setCell (k + 2) 3 s0 x1 ((f11_cell (k + 2) 3 s0 x1) + (1 : Int32))); (((f11_cellS 2 x1) + ((f11_cell (k + 2) 3 σ x1) * (f11_cellS 3 x1))), s1)) else ((-1 : Int32), σ)))
theorem w_f8_open {k : Nat} (σ : SI) (x1 : Int32) (a : Nat) (h0 : a ≠ (k + 1)) (h1 : a ≠ (k + 2)) : (f8_open k σ x1).2 a = σ a := by
  refine fp_to2 ?_
  unfold f8_open
  exact (fr_ite2 (fr_mk21 rfl) (fr_ite2 (fr_mk21 rfl) (fr_ite2 (fr_mk21 ((w_f11_setCell _ _ _ a h1).trans (w_f8_putUsual _ _ _ a h0))) (fr_mk21 rfl))))
set_option maxHeartbeats 4000000 in
set_option maxRecDepth 100000 in
theorem c8_open (l : Launch) (G : GT) {k : Nat} (hk : isTown k) (σ : SI) (τ : SL) (x1 : Int32) : Mc l yX8_open cX8_open 3 (some .int) 3 G [.ref (G.2.1 k), .int x1] σ τ (Qi G (Ei (f8_open k σ x1).1 (f8_open k σ x1).2 τ)) := by
  refine m_start (by decide +kernel) (Nat.le_of_ble_eq_true rfl) rfl (fun p e s m args below meth c ls X I hl => ?_)
  have hl : lv_has ls 3 [(0, .ref (G.2.1 k)), (1, .int x1)] := hl
  obtain ⟨E, hE⟩ : ∃ E, E = (f8_open k σ x1) := ⟨_, rfl⟩
  rw [← hE]
  refine lv_iload_n X.1 X.2.1 dX8_open_0 rfl (lv_at hl 1 rfl) ?_
  refine lv_if_lt (tgt := 27) X.1 X.2.1 dX8_open_1 (by decide) (fun c_1 => ?_) (fun c_1 => ?_)
  · skip
    have hE := ite_t hE c_1
    refine lv_iconst (v := (-1)) X.1 X.2.1 dX8_open_27 (by decide) ?_
    have h9 := hE
    exact r_iret X I (e_i (pr_fst h9) (pr_snd h9) rfl) dX8_open_28
  · skip
    have hE := ite_f hE c_1
    refine lv_iload_n X.1 X.2.1 dX8_open_4 rfl (lv_at hl 1 rfl) ?_
    refine lv_iconst (v := 3) X.1 X.2.1 dX8_open_5 (by decide) ?_
    refine lv_icmp_ge (tgt := 27) X.1 X.2.1 dX8_open_6 (by decide) (fun c_2 => ?_) (fun c_2 => ?_)
    · skip
      have hE := ite_t hE c_2
      refine lv_iconst (v := (-1)) X.1 X.2.1 dX8_open_27 (by decide) ?_
      have h9 := hE
      exact r_iret X I (e_i (pr_fst h9) (pr_snd h9) rfl) dX8_open_28
    · skip
      have hE := ite_f hE c_2
      refine lv_aload_n X.1 X.2.1 dX8_open_9 rfl (lv_at hl 0 rfl) ?_
      refine g8_1 X I (k := k) (Nat.lt_of_le_of_lt (Nat.add_le_add_left (show 0 ≤ 2 by decide) k) hk.1) hk.2.1 lf_X8_15 dX8_open_10 ?_
      refine lv_iload_n X.1 X.2.1 dX8_open_13 rfl (lv_at hl 1 rfl) ?_
      refine r_ei I (r_runN X I pk_X11_cell (c11_cell l G (k := (k + 2)) (n := 3) (Nat.lt_of_le_of_lt (Nat.add_le_add_left (show 2 ≤ 2 by decide) k) hk.1) hk.2.2.2 (by decide) _ _ _) (by decide +kernel) rfl hl.1 rfl (Nat.le_of_ble_eq_true rfl) dX8_open_14 ⟨Nat.le_of_ble_eq_true rfl, Nat.le_of_ble_eq_true rfl⟩ ⟨Nat.le_refl 0, Nat.le_refl 0⟩) (fun H locs I => ?_)
      refine r_sget X I 1 (by decide) (index := 39) (by decide +kernel) dX8_open_17 ?_
      refine lv_iload_n X.1 X.2.1 dX8_open_20 rfl (lv_at hl 1 rfl) ?_
      refine r_ei I (r_runN X I pk_X11_cell (c11_cellS l G 1 (by decide) _ _ _) (by decide +kernel) rfl hl.1 rfl (Nat.le_of_ble_eq_true rfl) dX8_open_21 ⟨Nat.le_of_ble_eq_true rfl, Nat.le_of_ble_eq_true rfl⟩ ⟨Nat.le_refl 0, Nat.le_refl 0⟩) (fun H locs I => ?_)
      refine lv_icmp_lt (tgt := 29) X.1 X.2.1 dX8_open_24 (by decide) (fun c_3 => ?_) (fun c_3 => ?_)
      · skip
        have hE := ite_t hE c_3
        refine r_sget X I 2 (by decide) (index := 42) (by decide +kernel) dX8_open_29 ?_
        refine lv_iload_n X.1 X.2.1 dX8_open_32 rfl (lv_at hl 1 rfl) ?_
        refine r_ei I (r_runN X I pk_X11_cell (c11_cellS l G 2 (by decide) _ _ _) (by decide +kernel) rfl hl.1 rfl (Nat.le_of_ble_eq_true rfl) dX8_open_33 ⟨Nat.le_of_ble_eq_true rfl, Nat.le_of_ble_eq_true rfl⟩ ⟨Nat.le_refl 0, Nat.le_refl 0⟩) (fun H locs I => ?_)
        refine lv_aload_n X.1 X.2.1 dX8_open_36 rfl (lv_at hl 0 rfl) ?_
        refine g8_1 X I (k := k) (Nat.lt_of_le_of_lt (Nat.add_le_add_left (show 0 ≤ 2 by decide) k) hk.1) hk.2.1 lf_X8_15 dX8_open_37 ?_
        refine lv_iload_n X.1 X.2.1 dX8_open_40 rfl (lv_at hl 1 rfl) ?_
        refine r_ei I (r_runN X I pk_X11_cell (c11_cell l G (k := (k + 2)) (n := 3) (Nat.lt_of_le_of_lt (Nat.add_le_add_left (show 2 ≤ 2 by decide) k) hk.1) hk.2.2.2 (by decide) _ _ _) (by decide +kernel) rfl hl.1 rfl (Nat.le_of_ble_eq_true rfl) dX8_open_41 ⟨Nat.le_of_ble_eq_true rfl, Nat.le_of_ble_eq_true rfl⟩ ⟨Nat.le_refl 0, Nat.le_refl 0⟩) (fun H locs I => ?_)
        refine r_sget X I 3 (by decide) (index := 45) (by decide +kernel) dX8_open_44 ?_
        refine lv_iload_n X.1 X.2.1 dX8_open_47 rfl (lv_at hl 1 rfl) ?_
        refine r_ei I (r_runN X I pk_X11_cell (c11_cellS l G 3 (by decide) _ _ _) (by decide +kernel) rfl hl.1 rfl (Nat.le_of_ble_eq_true rfl) dX8_open_48 ⟨Nat.le_of_ble_eq_true rfl, Nat.le_of_ble_eq_true rfl⟩ ⟨Nat.le_refl 0, Nat.le_refl 0⟩) (fun H locs I => ?_)
        refine lv_imul X.1 X.2.1 dX8_open_51 ?_
        refine lv_iadd X.1 X.2.1 dX8_open_52 ?_
        refine lv_istore_n (lv' := [(2, .int _), (0, .ref _), (1, .int _)]) X.1 X.2.1 dX8_open_53 rfl hl (by decide) rfl (fun ls hl => ?_)
        refine lv_aload_n X.1 X.2.1 dX8_open_54 rfl (lv_at hl 1 rfl) ?_
        refine lv_iload_n X.1 X.2.1 dX8_open_55 rfl (lv_at hl 2 rfl) ?_
        refine lv_iload_n X.1 X.2.1 dX8_open_56 rfl (lv_at hl 0 rfl) ?_
        refine r_ev I (r_runV X I pk_X8_putUsual (c8_putUsual l G (k := k) hk _ _ _ _) lm_X8_26 (Nat.lt_of_le_of_lt (Nat.add_le_add_left (show 0 ≤ 2 by decide) k) hk.1) (cl_8 hk.2.1) rfl rfl rfl hl.1 rfl (Nat.le_of_ble_eq_true rfl) dX8_open_57 ⟨Nat.le_of_ble_eq_true rfl, Nat.le_of_ble_eq_true rfl⟩ ⟨Nat.le_refl 0, Nat.le_refl 0⟩) (fun H locs I => ?_)
        refine lv_aload_n X.1 X.2.1 dX8_open_60 rfl (lv_at hl 1 rfl) ?_
        refine g8_1 X I (k := k) (Nat.lt_of_le_of_lt (Nat.add_le_add_left (show 0 ≤ 2 by decide) k) hk.1) hk.2.1 lf_X8_15 dX8_open_61 ?_
        refine lv_iload_n X.1 X.2.1 dX8_open_64 rfl (lv_at hl 2 rfl) ?_
        refine lv_aload_n X.1 X.2.1 dX8_open_65 rfl (lv_at hl 1 rfl) ?_
        refine g8_1 X I (k := k) (Nat.lt_of_le_of_lt (Nat.add_le_add_left (show 0 ≤ 2 by decide) k) hk.1) hk.2.1 lf_X8_15 dX8_open_66 ?_
        refine lv_iload_n X.1 X.2.1 dX8_open_69 rfl (lv_at hl 2 rfl) ?_
        refine r_ei I (r_runN X I pk_X11_cell (c11_cell l G (k := (k + 2)) (n := 3) (Nat.lt_of_le_of_lt (Nat.add_le_add_left (show 2 ≤ 2 by decide) k) hk.1) hk.2.2.2 (by decide) _ _ _) (by decide +kernel) rfl hl.1 rfl (Nat.le_of_ble_eq_true rfl) dX8_open_70 ⟨Nat.le_of_ble_eq_true rfl, Nat.le_of_ble_eq_true rfl⟩ ⟨Nat.le_refl 0, Nat.le_refl 0⟩) (fun H locs I => ?_)
        refine lv_iconst (v := 1) X.1 X.2.1 dX8_open_73 (by decide) ?_
        refine lv_iadd X.1 X.2.1 dX8_open_74 ?_
        refine r_ev I (r_runN X I pk_X11_setCell (c11_setCell l G (k := (k + 2)) (n := 3) (Nat.lt_of_le_of_lt (Nat.add_le_add_left (show 2 ≤ 2 by decide) k) hk.1) hk.2.2.2 (by decide) _ _ _ _) (by decide +kernel) rfl hl.1 rfl (Nat.le_of_ble_eq_true rfl) dX8_open_75 ⟨Nat.le_of_ble_eq_true rfl, Nat.le_of_ble_eq_true rfl⟩ ⟨Nat.le_refl 0, Nat.le_refl 0⟩) (fun H locs I => ?_)
        refine lv_iload_n X.1 X.2.1 dX8_open_78 rfl (lv_at hl 0 rfl) ?_
        have h9 := hE
        exact r_iret X I (e_i (pr_fst h9) (pr_snd h9) rfl) dX8_open_79
      · skip
        have hE := ite_f hE c_3
        refine lv_iconst (v := (-1)) X.1 X.2.1 dX8_open_27 (by decide) ?_
        have h9 := hE
        exact r_iret X I (e_i (pr_fst h9) (pr_snd h9) rfl) dX8_open_28
noncomputable def f8_hasSharedPlace_c12 (k : Nat) (σ : SI) (x1 : Int32) (K : Int32 → Bool) : Nat → Int32 → Bool
  | 0, v2 => (K v2)
  | fu + 1, v2 => if x1 ≤ v2 then (K v2) else (if (f8_distance k σ x1 v2) = (0 : Int32) then true else (f8_hasSharedPlace_c12 k σ x1 K fu (v2 + 1)))
noncomputable def f8_hasSharedPlace_c2 (k : Nat) (σ : SI) : Nat → Int32 → Bool
  | 0, _ => false
  | fu + 1, v1 => if (f8_houses k σ) ≤ v1 then false else (f8_hasSharedPlace_c12 k σ v1 (fun (y1_2 : Int32) => (f8_hasSharedPlace_c2 k σ fu (v1 + 1))) (fu1 ((Int32.toInt v1 - Int32.toInt (0 : Int32)).toNat)) (0 : Int32))
noncomputable def f8_hasSharedPlace (k : Nat) (σ : SI) : Bool := (f8_hasSharedPlace_c2 k σ (fu1 ((Int32.toInt (f8_houses k σ) - Int32.toInt (0 : Int32)).toNat)) (0 : Int32))
set_option maxHeartbeats 4000000 in
set_option maxRecDepth 100000 in
theorem c8_hasSharedPlace_c12 {l : Launch} {p : Program} {e : Env} {s : State} {m : MethodId} {args : Array Value} {below : List Frame} {meth : Method} {c : Code} {G : GT} (X : CX p s m args meth c cX8_hasSharedPlace RX8 3 (some .boolean) G) {k : Nat} (hk : isTown k) {E : Bool} (σ : SI) (τ : SL) (x1 : Int32) {K : Int32 → Bool} (hK : ∀ (v2 : Int32) (H : Heap) (locs : List Loc) (ls : Array Slot), IX G s H locs σ τ → lv_has ls 3 [(0, .ref (G.2.1 k)), (1, .int x1), (2, .int v2)] → E = K v2 → W p l e (rmN 3) s m args below meth c H locs 0 0 (MQ below ((Qi G (Ei (b2i E) σ τ)) s.heap.size) args s 0 0 (AW G s.heap.size)) (F0 m 34 ls [])) : ∀ (fu : Nat) (v2 : Int32) (H : Heap) (locs : List Loc) (ls : Array Slot), IX G s H locs σ τ → lv_has ls 3 [(0, .ref (G.2.1 k)), (1, .int x1), (2, .int v2)] → (Int32.toInt x1 - Int32.toInt v2).toNat < fu → E = (f8_hasSharedPlace_c12 k σ x1 K fu v2) → W p l e (rmN 3) s m args below meth c H locs 0 0 (MQ below ((Qi G (Ei (b2i E) σ τ)) s.heap.size) args s 0 0 (AW G s.heap.size)) (F0 m 12 ls []) := by
  intro fu
  induction fu with
  | zero =>
    intro v2 H locs ls I hl  hm hE
    exact absurd hm (Nat.not_lt_zero _)
  | succ fu ih =>
    intro v2 H locs ls I hl  hm hE
    refine lv_iload_n X.1 X.2.1 dX8_hasSharedPlace_12 rfl (lv_at hl 2 rfl) ?_
    refine lv_iload_n X.1 X.2.1 dX8_hasSharedPlace_13 rfl (lv_at hl 1 rfl) ?_
    refine lv_icmp_ge (tgt := 34) X.1 X.2.1 dX8_hasSharedPlace_14 (by decide) (fun c_2 => ?_) (fun c_2 => ?_)
    · skip
      have hE := ite_t hE c_2
      exact hK _ _ _ _ I (lv_sub hl [0, 1, 2] rfl) (hE.trans (rfl))
    · skip
      have hE := ite_f hE c_2
      refine lv_aload_n X.1 X.2.1 dX8_hasSharedPlace_17 rfl (lv_at hl 0 rfl) ?_
      refine lv_iload_n X.1 X.2.1 dX8_hasSharedPlace_18 rfl (lv_at hl 1 rfl) ?_
      refine lv_iload_n X.1 X.2.1 dX8_hasSharedPlace_19 rfl (lv_at hl 2 rfl) ?_
      refine r_ei I (r_runV X I pk_X8_distance (c8_distance l G (k := k) hk _ _ _ _) lm_X8_65 (Nat.lt_of_le_of_lt (Nat.add_le_add_left (show 0 ≤ 2 by decide) k) hk.1) (cl_8 hk.2.1) rfl rfl rfl hl.1 rfl (Nat.le_of_ble_eq_true rfl) dX8_hasSharedPlace_20 ⟨Nat.le_of_ble_eq_true rfl, Nat.le_of_ble_eq_true rfl⟩ ⟨Nat.le_refl 0, Nat.le_refl 0⟩) (fun H locs I => ?_)
      refine lv_if_ne (tgt := 28) X.1 X.2.1 dX8_hasSharedPlace_23 (by decide) (fun c_3 => ?_) (fun c_3 => ?_)
      · skip
        have hE := ite_f hE c_3
        refine lv_iinc (v := _ + 1) (lv' := [(2, .int _), (0, .ref _), (1, .int _)]) X.1 X.2.1 dX8_hasSharedPlace_28 hl (k := 2) rfl rfl (by decide) rfl (fun ls hl => ?_)
        refine lv_goto (tgt := 12) X.1 X.2.1 dX8_hasSharedPlace_31 (by decide) ?_
        exact ih _ _ _ _ I (lv_sub hl [1, 2, 0] rfl) (Nat.lt_of_lt_of_le (up_dec c_2) (Nat.le_of_lt_succ hm)) (hE.trans (rfl))
      · skip
        have hE := ite_t hE c_3
        refine lv_iconst (v := 1) X.1 X.2.1 dX8_hasSharedPlace_26 (by decide) ?_
        have h9 := hE
        exact r_zret X I rfl (e_i (congrArg b2i h9).symm rfl rfl) dX8_hasSharedPlace_27
set_option maxHeartbeats 4000000 in
set_option maxRecDepth 100000 in
theorem c8_hasSharedPlace_c2 {l : Launch} {p : Program} {e : Env} {s : State} {m : MethodId} {args : Array Value} {below : List Frame} {meth : Method} {c : Code} {G : GT} (X : CX p s m args meth c cX8_hasSharedPlace RX8 3 (some .boolean) G) {k : Nat} (hk : isTown k) {E : Bool} (σ : SI) (τ : SL) : ∀ (fu : Nat) (v1 : Int32) (H : Heap) (locs : List Loc) (ls : Array Slot), IX G s H locs σ τ → lv_has ls 3 [(0, .ref (G.2.1 k)), (1, .int v1)] → (Int32.toInt (f8_houses k σ) - Int32.toInt v1).toNat < fu → E = (f8_hasSharedPlace_c2 k σ fu v1) → W p l e (rmN 3) s m args below meth c H locs 0 0 (MQ below ((Qi G (Ei (b2i E) σ τ)) s.heap.size) args s 0 0 (AW G s.heap.size)) (F0 m 2 ls []) := by
  intro fu
  induction fu with
  | zero =>
    intro v1 H locs ls I hl  hm hE
    exact absurd hm (Nat.not_lt_zero _)
  | succ fu ih =>
    intro v1 H locs ls I hl  hm hE
    refine lv_iload_n X.1 X.2.1 dX8_hasSharedPlace_2 rfl (lv_at hl 1 rfl) ?_
    refine lv_aload_n X.1 X.2.1 dX8_hasSharedPlace_3 rfl (lv_at hl 0 rfl) ?_
    refine r_ei I (r_runV X I pk_X8_houses (c8_houses l G (k := k) hk _ _) lm_X8_54 (Nat.lt_of_le_of_lt (Nat.add_le_add_left (show 0 ≤ 2 by decide) k) hk.1) (cl_8 hk.2.1) rfl rfl rfl hl.1 rfl (Nat.le_of_ble_eq_true rfl) dX8_hasSharedPlace_4 ⟨Nat.le_of_ble_eq_true rfl, Nat.le_of_ble_eq_true rfl⟩ ⟨Nat.le_refl 0, Nat.le_refl 0⟩) (fun H locs I => ?_)
    refine lv_icmp_ge (tgt := 40) X.1 X.2.1 dX8_hasSharedPlace_7 (by decide) (fun c_1 => ?_) (fun c_1 => ?_)
    · skip
      have hE := ite_t hE c_1
      refine lv_iconst (v := 0) X.1 X.2.1 dX8_hasSharedPlace_40 (by decide) ?_
      have h9 := hE
      exact r_zret X I rfl (e_i (congrArg b2i h9).symm rfl rfl) dX8_hasSharedPlace_41
    · skip
      have hE := ite_f hE c_1
      refine lv_iconst (v := 0) X.1 X.2.1 dX8_hasSharedPlace_10 (by decide) ?_
      refine lv_istore_n (lv' := [(2, .int _), (0, .ref _), (1, .int _)]) X.1 X.2.1 dX8_hasSharedPlace_11 rfl hl (by decide) rfl (fun ls hl => ?_)
      refine c8_hasSharedPlace_c12 X hk _ _ _ (fun y1_2 H locs ls I hl hE => ?_) _ _ _ _ _ I (lv_sub hl [1, 2, 0] rfl) (fu1_lt _) (hE.trans (rfl))
      refine lv_iinc (v := _ + 1) (lv' := [(1, .int _), (0, .ref _), (2, .int _)]) X.1 X.2.1 dX8_hasSharedPlace_34 hl (k := 1) rfl rfl (by decide) rfl (fun ls hl => ?_)
      refine lv_goto (tgt := 2) X.1 X.2.1 dX8_hasSharedPlace_37 (by decide) ?_
      exact ih _ _ _ _ I (lv_sub hl [1, 0] rfl) (Nat.lt_of_lt_of_le (up_dec c_1) (Nat.le_of_lt_succ hm)) (hE.trans (rfl))
set_option maxHeartbeats 4000000 in
set_option maxRecDepth 100000 in
theorem c8_hasSharedPlace (l : Launch) (G : GT) {k : Nat} (hk : isTown k) (σ : SI) (τ : SL) : Mc l yX8_hasSharedPlace cX8_hasSharedPlace 3 (some .boolean) 3 G [.ref (G.2.1 k)] σ τ (Qi G (Ei (b2i (f8_hasSharedPlace k σ)) σ τ)) := by
  refine m_start (by decide +kernel) (Nat.le_of_ble_eq_true rfl) rfl (fun p e s m args below meth c ls X I hl => ?_)
  have hl : lv_has ls 3 [(0, .ref (G.2.1 k))] := hl
  obtain ⟨E, hE⟩ : ∃ E, E = (f8_hasSharedPlace k σ) := ⟨_, rfl⟩
  rw [← hE]
  refine lv_iconst (v := 0) X.1 X.2.1 dX8_hasSharedPlace_0 (by decide) ?_
  refine lv_istore_n (lv' := [(1, .int _), (0, .ref _)]) X.1 X.2.1 dX8_hasSharedPlace_1 rfl hl (by decide) rfl (fun ls hl => ?_)
  exact c8_hasSharedPlace_c2 X hk _ _  _ _ _ _ _ I (lv_sub hl [1, 0] rfl) (fu1_lt _) (hE.trans (rfl))
