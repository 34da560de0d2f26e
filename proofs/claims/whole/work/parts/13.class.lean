def f8_copy (k : Nat) (k1 : Nat) (σ : SI) : SI := let s0 := su σ (k + 1) (va_cpy (σ (k1 + 1)) (σ (k + 1)) 0 0 36); let s1 := su s0 (k + 2) (va_cpy (s0 (k1 + 2)) (s0 (k + 2)) 0 0 3); s1
theorem w_f8_copy {k : Nat} {k1 : Nat} (σ : SI) (a : Nat) (h0 : a ≠ (k + 1)) (h1 : a ≠ (k + 2)) : (f8_copy k k1 σ) a = σ a := by
  unfold f8_copy
  (repeat' split) <;> (first | rfl | (simp only [sp_n, su_n, ne_eq, not_false_eq_true, h0, h1]; done) | (simp [sp_n, su_n, ne_eq, not_false_eq_true, h0, h1]; done))
set_option maxHeartbeats 4000000 in
set_option maxRecDepth 100000 in
theorem c8_copy (l : Launch) (G : GT) {k : Nat} (hk : isTown k) {k1 : Nat} (hk1 : isTown k1) (σ : SI) (τ : SL) : Mc l yX8_copy cX8_copy 2 none 2 G [.ref (G.2.1 k), .ref (G.2.1 k1)] σ τ (Qv G (Ev (f8_copy k k1 σ) τ)) := by
  refine m_start (by decide +kernel) (Nat.le_of_ble_eq_true rfl) rfl (fun p e s m args below meth c ls X I hl => ?_)
  have hl : lv_has ls 2 [(0, .ref (G.2.1 k)), (1, .ref (G.2.1 k1))] := hl
  obtain ⟨E, hE⟩ : ∃ E, E = (f8_copy k k1 σ) := ⟨_, rfl⟩
  rw [← hE]
  refine lv_aload_n X.1 X.2.1 dX8_copy_0 rfl (lv_at hl 1 rfl) ?_
  refine g8_0 X I (k := k1) (Nat.lt_of_le_of_lt (Nat.add_le_add_left (show 0 ≤ 2 by decide) k1) hk1.1) hk1.2.1 lf_X8_9 dX8_copy_1 ?_
  refine lv_iconst (v := 0) X.1 X.2.1 dX8_copy_4 (by decide) ?_
  refine lv_aload_n X.1 X.2.1 dX8_copy_5 rfl (lv_at hl 0 rfl) ?_
  refine g8_0 X I (k := k) (Nat.lt_of_le_of_lt (Nat.add_le_add_left (show 0 ≤ 2 by decide) k) hk.1) hk.2.1 lf_X8_9 dX8_copy_6 ?_
  refine lv_iconst (v := 0) X.1 X.2.1 dX8_copy_9 (by decide) ?_
  refine lv_bipush (v := 36) X.1 X.2.1 dX8_copy_10 (by decide) ?_
  refine r_copy X I hl.1 (k0 := (k1 + 1)) (n0 := 36) (k1 := (k + 1)) (n1 := 36) (Nat.lt_of_le_of_lt (Nat.add_le_add_left (show 1 ≤ 2 by decide) k1) hk1.1) hk1.2.2.1 (Nat.lt_of_le_of_lt (Nat.add_le_add_left (show 1 ≤ 2 by decide) k) hk.1) hk.2.2.1 (N := 36) (n := 36) (by decide) (by decide) (by decide) rfl (Nat.le_of_ble_eq_true rfl) (Nat.le_of_ble_eq_true rfl) lm_X8_26 dX8_copy_12 (Nat.le_of_ble_eq_true rfl) (Nat.le_of_ble_eq_true rfl) (fun H locs I => ?_)
  refine lv_aload_n X.1 X.2.1 dX8_copy_15 rfl (lv_at hl 1 rfl) ?_
  refine g8_1 X I (k := k1) (Nat.lt_of_le_of_lt (Nat.add_le_add_left (show 0 ≤ 2 by decide) k1) hk1.1) hk1.2.1 lf_X8_15 dX8_copy_16 ?_
  refine lv_iconst (v := 0) X.1 X.2.1 dX8_copy_19 (by decide) ?_
  refine lv_aload_n X.1 X.2.1 dX8_copy_20 rfl (lv_at hl 0 rfl) ?_
  refine g8_1 X I (k := k) (Nat.lt_of_le_of_lt (Nat.add_le_add_left (show 0 ≤ 2 by decide) k) hk.1) hk.2.1 lf_X8_15 dX8_copy_21 ?_
  refine lv_iconst (v := 0) X.1 X.2.1 dX8_copy_24 (by decide) ?_
  refine lv_iconst (v := 3) X.1 X.2.1 dX8_copy_25 (by decide) ?_
  refine r_copy X I hl.1 (k0 := (k1 + 2)) (n0 := 3) (k1 := (k + 2)) (n1 := 3) (Nat.lt_of_le_of_lt (Nat.add_le_add_left (show 2 ≤ 2 by decide) k1) hk1.1) hk1.2.2.2 (Nat.lt_of_le_of_lt (Nat.add_le_add_left (show 2 ≤ 2 by decide) k) hk.1) hk.2.2.2 (N := 3) (n := 3) (by decide) (by decide) (by decide) rfl (Nat.le_of_ble_eq_true rfl) (Nat.le_of_ble_eq_true rfl) lm_X8_26 dX8_copy_26 (Nat.le_of_ble_eq_true rfl) (Nat.le_of_ble_eq_true rfl) (fun H locs I => ?_)
  have h9 := hE
  exact r_vret X I (e_v (h9).symm rfl) dX8_copy_29
def f8_open (k : Nat) (σ : SI) (x1 : Int32) : Int32 × SI := if x1 < (0 : Int32) then ((-1 : Int32), σ) else (if (3 : Int32) ≤ x1 then ((-1 : Int32), σ) else (if (f11_cell (k + 2) 3 σ x1) < (f11_cellS 1 x1) then (let s0 := (f8_putUsual k σ x1 ((f11_cellS 2 x1) + ((f11_cell (k + 2) 3 σ x1) * (f11_cellS 3 x1)))); let s1 := (f11_setCell (k + 2) 3 s0 x1 ((f11_cell (k + 2) 3 s0 x1) + (1 : Int32))); (((f11_cellS 2 x1) + ((f11_cell (k + 2) 3 σ x1) * (f11_cellS 3 x1))), s1)) else ((-1 : Int32), σ)))
theorem w_f8_open {k : Nat} (σ : SI) (x1 : Int32) (a : Nat) (h0 : a ≠ (k + 1)) (h1 : a ≠ (k + 2)) : (f8_open k σ x1).2 a = σ a := by
  unfold f8_open
  (repeat' split) <;> (first | rfl | (simp only [sp_n, su_n, ne_eq, not_false_eq_true, h0, h1, w_f11_setCell, w_f8_putUsual]; done) | (simp [sp_n, su_n, ne_eq, not_false_eq_true, h0, h1, w_f11_setCell, w_f8_putUsual]; done))
set_option maxHeartbeats 4000000 in
set_option maxRecDepth 100000 in
theorem c8_open (l : Launch) (G : GT) {k : Nat} (hk : isTown k) (σ : SI) (τ : SL) (x1 : Int32) : Mc l yX8_open cX8_open 3 (some .int) 3 G [.ref (G.2.1 k), .int x1] σ τ (Qi G (Ei (f8_open k σ x1).1 (f8_open k σ x1).2 τ)) := by
  refine m_start (by decide +kernel) (Nat.le_of_ble_eq_true rfl) rfl (fun p e s m args below meth c ls X I hl => ?_)
  have hl : lv_has ls 3 [(0, .ref (G.2.1 k)), (1, .int x1)] := hl
  obtain ⟨E, hE⟩ : ∃ E, E = (f8_open k σ x1) := ⟨_, rfl⟩
  rw [← hE]
  refine lv_iload_n X.1 X.2.1 dX8_open_0 rfl (lv_at hl 1 rfl) ?_
  refine lv_if_lt (tgt := 27) X.1 X.2.1 dX8_open_1 (by decide) (fun c_1 => ?_) (fun c_1 => ?_)
  · skip
    refine lv_iconst (v := (-1)) X.1 X.2.1 dX8_open_27 (by decide) ?_
    have h9 := hE.trans ((if_pos c_1).trans rfl)
    exact r_iret X I (e_i (congrArg Prod.fst h9).symm (congrArg Prod.snd h9).symm rfl) dX8_open_28
  · skip
    refine lv_iload_n X.1 X.2.1 dX8_open_4 rfl (lv_at hl 1 rfl) ?_
    refine lv_iconst (v := 3) X.1 X.2.1 dX8_open_5 (by decide) ?_
    refine lv_icmp_ge (tgt := 27) X.1 X.2.1 dX8_open_6 (by decide) (fun c_2 => ?_) (fun c_2 => ?_)
    · skip
      refine lv_iconst (v := (-1)) X.1 X.2.1 dX8_open_27 (by decide) ?_
      have h9 := hE.trans ((if_neg c_1).trans ((if_pos c_2).trans rfl))
      exact r_iret X I (e_i (congrArg Prod.fst h9).symm (congrArg Prod.snd h9).symm rfl) dX8_open_28
    · skip
      refine lv_aload_n X.1 X.2.1 dX8_open_9 rfl (lv_at hl 0 rfl) ?_
      refine g8_1 X I (k := k) (Nat.lt_of_le_of_lt (Nat.add_le_add_left (show 0 ≤ 2 by decide) k) hk.1) hk.2.1 lf_X8_15 dX8_open_10 ?_
      refine lv_iload_n X.1 X.2.1 dX8_open_13 rfl (lv_at hl 1 rfl) ?_
      refine r_ei I (r_runN X I pk_X11_cell (c11_cell l G (k := (k + 2)) (n := 3) (Nat.lt_of_le_of_lt (Nat.add_le_add_left (show 2 ≤ 2 by decide) k) hk.1) hk.2.2.2 (by decide) _ _ _) (by decide +kernel) rfl hl.1 rfl (Nat.le_of_ble_eq_true rfl) dX8_open_14 ⟨Nat.le_of_ble_eq_true rfl, Nat.le_of_ble_eq_true rfl⟩ ⟨Nat.le_refl 0, Nat.le_refl 0⟩) (fun H locs I => ?_)
      refine r_sget X I 1 (by decide) (index := 36) (by decide +kernel) dX8_open_17 ?_
      refine lv_iload_n X.1 X.2.1 dX8_open_20 rfl (lv_at hl 1 rfl) ?_
      refine r_ei I (r_runN X I pk_X11_cell (c11_cellS l G 1 (by decide) _ _ _) (by decide +kernel) rfl hl.1 rfl (Nat.le_of_ble_eq_true rfl) dX8_open_21 ⟨Nat.le_of_ble_eq_true rfl, Nat.le_of_ble_eq_true rfl⟩ ⟨Nat.le_refl 0, Nat.le_refl 0⟩) (fun H locs I => ?_)
      refine lv_icmp_lt (tgt := 29) X.1 X.2.1 dX8_open_24 (by decide) (fun c_3 => ?_) (fun c_3 => ?_)
      · skip
        refine r_sget X I 2 (by decide) (index := 39) (by decide +kernel) dX8_open_29 ?_
        refine lv_iload_n X.1 X.2.1 dX8_open_32 rfl (lv_at hl 1 rfl) ?_
        refine r_ei I (r_runN X I pk_X11_cell (c11_cellS l G 2 (by decide) _ _ _) (by decide +kernel) rfl hl.1 rfl (Nat.le_of_ble_eq_true rfl) dX8_open_33 ⟨Nat.le_of_ble_eq_true rfl, Nat.le_of_ble_eq_true rfl⟩ ⟨Nat.le_refl 0, Nat.le_refl 0⟩) (fun H locs I => ?_)
        refine lv_aload_n X.1 X.2.1 dX8_open_36 rfl (lv_at hl 0 rfl) ?_
        refine g8_1 X I (k := k) (Nat.lt_of_le_of_lt (Nat.add_le_add_left (show 0 ≤ 2 by decide) k) hk.1) hk.2.1 lf_X8_15 dX8_open_37 ?_
        refine lv_iload_n X.1 X.2.1 dX8_open_40 rfl (lv_at hl 1 rfl) ?_
        refine r_ei I (r_runN X I pk_X11_cell (c11_cell l G (k := (k + 2)) (n := 3) (Nat.lt_of_le_of_lt (Nat.add_le_add_left (show 2 ≤ 2 by decide) k) hk.1) hk.2.2.2 (by decide) _ _ _) (by decide +kernel) rfl hl.1 rfl (Nat.le_of_ble_eq_true rfl) dX8_open_41 ⟨Nat.le_of_ble_eq_true rfl, Nat.le_of_ble_eq_true rfl⟩ ⟨Nat.le_refl 0, Nat.le_refl 0⟩) (fun H locs I => ?_)
        refine r_sget X I 3 (by decide) (index := 42) (by decide +kernel) dX8_open_44 ?_
        refine lv_iload_n X.1 X.2.1 dX8_open_47 rfl (lv_at hl 1 rfl) ?_
        refine r_ei I (r_runN X I pk_X11_cell (c11_cellS l G 3 (by decide) _ _ _) (by decide +kernel) rfl hl.1 rfl (Nat.le_of_ble_eq_true rfl) dX8_open_48 ⟨Nat.le_of_ble_eq_true rfl, Nat.le_of_ble_eq_true rfl⟩ ⟨Nat.le_refl 0, Nat.le_refl 0⟩) (fun H locs I => ?_)
        refine lv_imul X.1 X.2.1 dX8_open_51 ?_
        refine lv_iadd X.1 X.2.1 dX8_open_52 ?_
        refine lv_istore_n (lv' := [(2, .int _), (0, .ref _), (1, .int _)]) X.1 X.2.1 dX8_open_53 rfl hl (by decide) rfl (fun ls hl => ?_)
        refine lv_aload_n X.1 X.2.1 dX8_open_54 rfl (lv_at hl 1 rfl) ?_
        refine lv_iload_n X.1 X.2.1 dX8_open_55 rfl (lv_at hl 2 rfl) ?_
        refine lv_iload_n X.1 X.2.1 dX8_open_56 rfl (lv_at hl 0 rfl) ?_
        refine r_ev I (r_runV X I pk_X8_putUsual (c8_putUsual l G (k := k) hk _ _ _ _) lm_X8_22 (Nat.lt_of_le_of_lt (Nat.add_le_add_left (show 0 ≤ 2 by decide) k) hk.1) (cl_8 hk.2.1) rfl rfl rfl hl.1 rfl (Nat.le_of_ble_eq_true rfl) dX8_open_57 ⟨Nat.le_of_ble_eq_true rfl, Nat.le_of_ble_eq_true rfl⟩ ⟨Nat.le_refl 0, Nat.le_refl 0⟩) (fun H locs I => ?_)
        refine lv_aload_n X.1 X.2.1 dX8_open_60 rfl (lv_at hl 1 rfl) ?_
        refine g8_1 X I (k := k) (Nat.lt_of_le_of_lt (Nat.add_le_add_left (show 0 ≤ 2 by decide) k) hk.1) hk.2.1 lf_X8_15 dX8_open_61 ?_
        refine lv_iload_n X.1 X.2.1 dX8_open_64 rfl (lv_at hl 2 rfl) ?_
        refine lv_aload_n X.1 X.2.1 dX8_open_65 rfl (lv_at hl 1 rfl) ?_
        refine g8_1 X I (k := k) (Nat.lt_of_le_of_lt (Nat.add_le_add_left (show 0 ≤ 2 by decide) k) hk.1) hk.2.1 lf_X8_15 dX8_open_66 ?_
        refine lv_iload_n X.1 X.2.1 dX8_open_69 rfl (lv_at hl 2 rfl) ?_
        refine r_ei I (r_runN X I pk_X11_cell (c11_cell l G (k := (k + 2)) (n := 3) (Nat.lt_of_le_of_lt (Nat.add_le_add_left (show 2 ≤ 2 by decide) k) hk.1) hk.2.2.2 (by decide) _ _ _) (by decide +kernel) rfl hl.1 rfl (Nat.le_of_ble_eq_true rfl) dX8_open_70 ⟨Nat.le_of_ble_eq_true rfl, Nat.le_of_ble_eq_true rfl⟩ ⟨Nat.le_refl 0, Nat.le_refl 0⟩) (fun H locs I => ?_)
        refine lv_iconst (v := 1) X.1 X.2.1 dX8_open_73 (by decide) ?_
        refine lv_iadd X.1 X.2.1 dX8_open_74 ?_
        refine r_ev I (r_runN X I pk_X11_setCell (c11_setCell l G (k := (k + 2)) (n := 3) (Nat.lt_of_le_of_lt (Nat.add_le_add_left (show 2 ≤ 2 by decide) k) hk.1) hk.2.2.2 (by decide) _ _ _ _) (by decide +kernel) rfl hl.1 rfl (Nat.le_of_ble_eq_true rfl) dX8_open_75 ⟨Nat.le_of_ble_eq_true rfl, Nat.le_of_ble_eq_true rfl⟩ ⟨Nat.le_refl 0, Nat.le_refl 0⟩) (fun H locs I => ?_)
        refine lv_iload_n X.1 X.2.1 dX8_open_78 rfl (lv_at hl 0 rfl) ?_
        have h9 := hE.trans ((if_neg c_1).trans ((if_neg c_2).trans ((if_pos c_3).trans rfl)))
        exact r_iret X I (e_i (congrArg Prod.fst h9).symm (congrArg Prod.snd h9).symm rfl) dX8_open_79
      · skip
        refine lv_iconst (v := (-1)) X.1 X.2.1 dX8_open_27 (by decide) ?_
        have h9 := hE.trans ((if_neg c_1).trans ((if_neg c_2).trans ((if_neg c_3).trans rfl)))
        exact r_iret X I (e_i (congrArg Prod.fst h9).symm (congrArg Prod.snd h9).symm rfl) dX8_open_28
def f8_hasSharedPlace_c12 (k : Nat) (σ : SI) (x1 : Int32) (K : Int32 → Bool) : Nat → Int32 → Bool
  | 0, v2 => (K v2)
  | fu + 1, v2 => if x1 ≤ v2 then (K v2) else (if (f8_distance k σ x1 v2) = (0 : Int32) then true else (f8_hasSharedPlace_c12 k σ x1 K fu (v2 + 1)))
def f8_hasSharedPlace_c2 (k : Nat) (σ : SI) : Nat → Int32 → Bool
  | 0, _ => false
  | fu + 1, v1 => if (f8_houses k σ) ≤ v1 then false else (f8_hasSharedPlace_c12 k σ v1 (fun (y1_2 : Int32) => (f8_hasSharedPlace_c2 k σ fu (v1 + 1))) ((Int32.toInt v1 - Int32.toInt (0 : Int32)).toNat + 1) (0 : Int32))
def f8_hasSharedPlace (k : Nat) (σ : SI) : Bool := (f8_hasSharedPlace_c2 k σ ((Int32.toInt (f8_houses k σ) - Int32.toInt (0 : Int32)).toNat + 1) (0 : Int32))
set_option maxHeartbeats 4000000 in
set_option maxRecDepth 100000 in
theorem c8_hasSharedPlace_c12 {l : Launch} {p : Program} {e : Env} {s : State} {m : MethodId} {args : Array Value} {below : List Frame} {meth : Method} {c : Code} {G : GT} (X : CX p s m args meth c cX8_hasSharedPlace RX8 3 (some .boolean) G) {k : Nat} (hk : isTown k) {E : Bool} (σ : SI) (τ : SL) (x1 : Int32) {K : Int32 → Bool} (hK : ∀ (v2 : Int32) (H : Heap) (locs : List Loc) (ls : Array Slot), IX G s H locs σ τ → lv_has ls 3 [(0, .ref (G.2.1 k)), (1, .int x1), (2, .int v2)] → E = K v2 → W p l e (rmN 6) s m args below meth c H locs 0 0 (MQ below ((Qi G (Ei (b2i E) σ τ)) s.heap.size) args s 0 0 (AW G s.heap.size)) (F0 m 34 ls [])) : ∀ (fu : Nat) (v2 : Int32) (H : Heap) (locs : List Loc) (ls : Array Slot), IX G s H locs σ τ → lv_has ls 3 [(0, .ref (G.2.1 k)), (1, .int x1), (2, .int v2)] → (Int32.toInt x1 - Int32.toInt v2).toNat < fu → E = (f8_hasSharedPlace_c12 k σ x1 K fu v2) → W p l e (rmN 6) s m args below meth c H locs 0 0 (MQ below ((Qi G (Ei (b2i E) σ τ)) s.heap.size) args s 0 0 (AW G s.heap.size)) (F0 m 12 ls []) := by
  intro fu
  induction fu with
  | zero =>
    intro v2 H locs ls I hl  hm hE
    exact absurd hm (Nat.not_lt_zero _)
  | succ fu ih =>
    intro v2 H locs ls I hl  hm hE
    refine lv_iload_n X.1 X.2.1 dX8_hasSharedPlace_12 rfl (lv_at hl 2 rfl) ?_
    refine lv_iload_n X.1 X.2.1 dX8_hasSharedPlace_13 rfl (lv_at hl 1 rfl) ?_
    refine lv_icmp_ge (tgt := 34) X.1 X.2.1 dX8_hasSharedPlace_14 (by decide) (fun c_2 => ?_) (fun c_2 => ?_)
    · skip
      exact hK _ _ _ _ I (lv_sub hl [0, 1, 2] rfl) (hE.trans ((if_pos c_2).trans rfl))
    · skip
      refine lv_aload_n X.1 X.2.1 dX8_hasSharedPlace_17 rfl (lv_at hl 0 rfl) ?_
      refine lv_iload_n X.1 X.2.1 dX8_hasSharedPlace_18 rfl (lv_at hl 1 rfl) ?_
      refine lv_iload_n X.1 X.2.1 dX8_hasSharedPlace_19 rfl (lv_at hl 2 rfl) ?_
      refine r_ei I (r_runV X I pk_X8_distance (c8_distance l G (k := k) hk _ _ _ _) lm_X8_65 (Nat.lt_of_le_of_lt (Nat.add_le_add_left (show 0 ≤ 2 by decide) k) hk.1) (cl_8 hk.2.1) rfl rfl rfl hl.1 rfl (Nat.le_of_ble_eq_true rfl) dX8_hasSharedPlace_20 ⟨Nat.le_of_ble_eq_true rfl, Nat.le_of_ble_eq_true rfl⟩ ⟨Nat.le_refl 0, Nat.le_refl 0⟩) (fun H locs I => ?_)
      refine lv_if_ne (tgt := 28) X.1 X.2.1 dX8_hasSharedPlace_23 (by decide) (fun c_3 => ?_) (fun c_3 => ?_)
      · skip
        refine lv_iinc (v := _ + 1) (lv' := [(2, .int _), (0, .ref _), (1, .int _)]) X.1 X.2.1 dX8_hasSharedPlace_28 hl (k := 2) rfl rfl (by decide) rfl (fun ls hl => ?_)
        refine lv_goto (tgt := 12) X.1 X.2.1 dX8_hasSharedPlace_31 (by decide) ?_
        exact ih _ _ _ _ I (lv_sub hl [1, 2, 0] rfl) (Nat.lt_of_lt_of_le (up_dec c_2) (Nat.le_of_lt_succ hm)) (hE.trans ((if_neg c_2).trans ((if_neg c_3).trans rfl)))
      · skip
        refine lv_iconst (v := 1) X.1 X.2.1 dX8_hasSharedPlace_26 (by decide) ?_
        have h9 := hE.trans ((if_neg c_2).trans ((if_pos c_3).trans rfl))
        exact r_zret X I rfl (e_i (congrArg b2i (h9)).symm rfl rfl) dX8_hasSharedPlace_27
set_option maxHeartbeats 4000000 in
set_option maxRecDepth 100000 in
theorem c8_hasSharedPlace_c2 {l : Launch} {p : Program} {e : Env} {s : State} {m : MethodId} {args : Array Value} {below : List Frame} {meth : Method} {c : Code} {G : GT} (X : CX p s m args meth c cX8_hasSharedPlace RX8 3 (some .boolean) G) {k : Nat} (hk : isTown k) {E : Bool} (σ : SI) (τ : SL) : ∀ (fu : Nat) (v1 : Int32) (H : Heap) (locs : List Loc) (ls : Array Slot), IX G s H locs σ τ → lv_has ls 3 [(0, .ref (G.2.1 k)), (1, .int v1)] → (Int32.toInt (f8_houses k σ) - Int32.toInt v1).toNat < fu → E = (f8_hasSharedPlace_c2 k σ fu v1) → W p l e (rmN 6) s m args below meth c H locs 0 0 (MQ below ((Qi G (Ei (b2i E) σ τ)) s.heap.size) args s 0 0 (AW G s.heap.size)) (F0 m 2 ls []) := by
  intro fu
  induction fu with
  | zero =>
    intro v1 H locs ls I hl  hm hE
    exact absurd hm (Nat.not_lt_zero _)
  | succ fu ih =>
    intro v1 H locs ls I hl  hm hE
    refine lv_iload_n X.1 X.2.1 dX8_hasSharedPlace_2 rfl (lv_at hl 1 rfl) ?_
    refine lv_aload_n X.1 X.2.1 dX8_hasSharedPlace_3 rfl (lv_at hl 0 rfl) ?_
    refine r_ei I (r_runV X I pk_X8_houses (c8_houses l G (k := k) hk _ _) lm_X8_54 (Nat.lt_of_le_of_lt (Nat.add_le_add_left (show 0 ≤ 2 by decide) k) hk.1) (cl_8 hk.2.1) rfl rfl rfl hl.1 rfl (Nat.le_of_ble_eq_true rfl) dX8_hasSharedPlace_4 ⟨Nat.le_of_ble_eq_true rfl, Nat.le_of_ble_eq_true rfl⟩ ⟨Nat.le_refl 0, Nat.le_refl 0⟩) (fun H locs I => ?_)
    refine lv_icmp_ge (tgt := 40) X.1 X.2.1 dX8_hasSharedPlace_7 (by decide) (fun c_1 => ?_) (fun c_1 => ?_)
    · skip
      refine lv_iconst (v := 0) X.1 X.2.1 dX8_hasSharedPlace_40 (by decide) ?_
      have h9 := hE.trans ((if_pos c_1).trans rfl)
      exact r_zret X I rfl (e_i (congrArg b2i (h9)).symm rfl rfl) dX8_hasSharedPlace_41
    · skip
      refine lv_iconst (v := 0) X.1 X.2.1 dX8_hasSharedPlace_10 (by decide) ?_
      refine lv_istore_n (lv' := [(2, .int _), (0, .ref _), (1, .int _)]) X.1 X.2.1 dX8_hasSharedPlace_11 rfl hl (by decide) rfl (fun ls hl => ?_)
      refine c8_hasSharedPlace_c12 X hk _ _ _ (fun y1_2 H locs ls I hl hE => ?_) _ _ _ _ _ I (lv_sub hl [1, 2, 0] rfl) (Nat.lt_succ_self _) (hE.trans ((if_neg c_1).trans rfl))
      refine lv_iinc (v := _ + 1) (lv' := [(1, .int _), (0, .ref _), (2, .int _)]) X.1 X.2.1 dX8_hasSharedPlace_34 hl (k := 1) rfl rfl (by decide) rfl (fun ls hl => ?_)
      refine lv_goto (tgt := 2) X.1 X.2.1 dX8_hasSharedPlace_37 (by decide) ?_
      exact ih _ _ _ _ I (lv_sub hl [1, 0] rfl) (Nat.lt_of_lt_of_le (up_dec c_1) (Nat.le_of_lt_succ hm)) (hE.trans (rfl))
set_option maxHeartbeats 4000000 in
set_option maxRecDepth 100000 in
theorem c8_hasSharedPlace (l : Launch) (G : GT) {k : Nat} (hk : isTown k) (σ : SI) (τ : SL) : Mc l yX8_hasSharedPlace cX8_hasSharedPlace 3 (some .boolean) 6 G [.ref (G.2.1 k)] σ τ (Qi G (Ei (b2i (f8_hasSharedPlace k σ)) σ τ)) := by
  refine m_start (by decide +kernel) (Nat.le_of_ble_eq_true rfl) rfl (fun p e s m args below meth c ls X I hl => ?_)
  have hl : lv_has ls 3 [(0, .ref (G.2.1 k))] := hl
  obtain ⟨E, hE⟩ : ∃ E, E = (f8_hasSharedPlace k σ) := ⟨_, rfl⟩
  rw [← hE]
  refine lv_iconst (v := 0) X.1 X.2.1 dX8_hasSharedPlace_0 (by decide) ?_
  refine lv_istore_n (lv' := [(1, .int _), (0, .ref _)]) X.1 X.2.1 dX8_hasSharedPlace_1 rfl hl (by decide) rfl (fun ls hl => ?_)
  exact c8_hasSharedPlace_c2 X hk _ _  _ _ _ _ _ I (lv_sub hl [1, 0] rfl) (Nat.lt_succ_self _) (hE.trans (rfl))
def f8_isWhole (k : Nat) (σ : SI) : Bool := if (f8_houses k σ) < (2 : Int32) then false else (if (f8_bearers k σ) < (1 : Int32) then false else (if (f8_hasSharedPlace k σ) = true then false else true))
set_option maxHeartbeats 4000000 in
set_option maxRecDepth 100000 in
theorem c8_isWhole (l : Launch) (G : GT) {k : Nat} (hk : isTown k) (σ : SI) (τ : SL) : Mc l yX8_isWhole cX8_isWhole 1 (some .boolean) 7 G [.ref (G.2.1 k)] σ τ (Qi G (Ei (b2i (f8_isWhole k σ)) σ τ)) := by
  refine m_start (by decide +kernel) (Nat.le_of_ble_eq_true rfl) rfl (fun p e s m args below meth c ls X I hl => ?_)
  have hl : lv_has ls 1 [(0, .ref (G.2.1 k))] := hl
  obtain ⟨E, hE⟩ : ∃ E, E = (f8_isWhole k σ) := ⟨_, rfl⟩
  rw [← hE]
  refine lv_aload_n X.1 X.2.1 dX8_isWhole_0 rfl (lv_at hl 0 rfl) ?_
  refine r_ei I (r_runV X I pk_X8_houses (c8_houses l G (k := k) hk _ _) lm_X8_54 (Nat.lt_of_le_of_lt (Nat.add_le_add_left (show 0 ≤ 2 by decide) k) hk.1) (cl_8 hk.2.1) rfl rfl rfl hl.1 rfl (Nat.le_of_ble_eq_true rfl) dX8_isWhole_1 ⟨Nat.le_of_ble_eq_true rfl, Nat.le_of_ble_eq_true rfl⟩ ⟨Nat.le_refl 0, Nat.le_refl 0⟩) (fun H locs I => ?_)
  refine lv_iconst (v := 2) X.1 X.2.1 dX8_isWhole_4 (by decide) ?_
  refine lv_icmp_lt (tgt := 27) X.1 X.2.1 dX8_isWhole_5 (by decide) (fun c_1 => ?_) (fun c_1 => ?_)
  · skip
    refine lv_iconst (v := 0) X.1 X.2.1 dX8_isWhole_27 (by decide) ?_
    have h9 := hE.trans ((if_pos c_1).trans rfl)
    exact r_zret X I rfl (e_i (congrArg b2i (h9)).symm rfl rfl) dX8_isWhole_28
  · skip
    refine lv_aload_n X.1 X.2.1 dX8_isWhole_8 rfl (lv_at hl 0 rfl) ?_
    refine r_ei I (r_runV X I pk_X8_bearers (c8_bearers l G (k := k) hk _ _) lm_X8_58 (Nat.lt_of_le_of_lt (Nat.add_le_add_left (show 0 ≤ 2 by decide) k) hk.1) (cl_8 hk.2.1) rfl rfl rfl hl.1 rfl (Nat.le_of_ble_eq_true rfl) dX8_isWhole_9 ⟨Nat.le_of_ble_eq_true rfl, Nat.le_of_ble_eq_true rfl⟩ ⟨Nat.le_refl 0, Nat.le_refl 0⟩) (fun H locs I => ?_)
    refine lv_iconst (v := 1) X.1 X.2.1 dX8_isWhole_12 (by decide) ?_
    refine lv_icmp_lt (tgt := 27) X.1 X.2.1 dX8_isWhole_13 (by decide) (fun c_2 => ?_) (fun c_2 => ?_)
    · skip
      refine lv_iconst (v := 0) X.1 X.2.1 dX8_isWhole_27 (by decide) ?_
      have h9 := hE.trans ((if_neg c_1).trans ((if_pos c_2).trans rfl))
      exact r_zret X I rfl (e_i (congrArg b2i (h9)).symm rfl rfl) dX8_isWhole_28
    · skip
      refine lv_aload_n X.1 X.2.1 dX8_isWhole_16 rfl (lv_at hl 0 rfl) ?_
      refine r_ei I (r_runV X I pk_X8_hasSharedPlace (c8_hasSharedPlace l G (k := k) hk _ _) lm_X8_61 (Nat.lt_of_le_of_lt (Nat.add_le_add_left (show 0 ≤ 2 by decide) k) hk.1) (cl_8 hk.2.1) rfl rfl rfl hl.1 rfl (Nat.le_of_ble_eq_true rfl) dX8_isWhole_17 ⟨Nat.le_of_ble_eq_true rfl, Nat.le_of_ble_eq_true rfl⟩ ⟨Nat.le_refl 0, Nat.le_refl 0⟩) (fun H locs I => ?_)
      refine lv_if_ne (tgt := 27) X.1 X.2.1 dX8_isWhole_20 (by decide) (fun c_3 => ?_) (fun c_3 => ?_)
      · skip
        refine lv_iconst (v := 0) X.1 X.2.1 dX8_isWhole_27 (by decide) ?_
        have h9 := hE.trans ((if_neg c_1).trans ((if_neg c_2).trans ((if_pos (b2i_y c_3)).trans rfl)))
        exact r_zret X I rfl (e_i (congrArg b2i (h9)).symm rfl rfl) dX8_isWhole_28
      · skip
        refine lv_iconst (v := 1) X.1 X.2.1 dX8_isWhole_23 (by decide) ?_
        refine lv_goto (tgt := 28) X.1 X.2.1 dX8_isWhole_24 (by decide) ?_
        have h9 := hE.trans ((if_neg c_1).trans ((if_neg c_2).trans ((if_neg (b2i_n c_3)).trans rfl)))
        exact r_zret X I rfl (e_i (congrArg b2i (h9)).symm rfl rfl) dX8_isWhole_28
def f8_isTold (k : Nat) (σ : SI) : Bool := if (f8_houses k σ) ≤ (0 : Int32) then false else true
set_option maxHeartbeats 4000000 in
set_option maxRecDepth 100000 in
theorem c8_isTold (l : Launch) (G : GT) {k : Nat} (hk : isTown k) (σ : SI) (τ : SL) : Mc l yX8_isTold cX8_isTold 1 (some .boolean) 2 G [.ref (G.2.1 k)] σ τ (Qi G (Ei (b2i (f8_isTold k σ)) σ τ)) := by
  refine m_start (by decide +kernel) (Nat.le_of_ble_eq_true rfl) rfl (fun p e s m args below meth c ls X I hl => ?_)
  have hl : lv_has ls 1 [(0, .ref (G.2.1 k))] := hl
  obtain ⟨E, hE⟩ : ∃ E, E = (f8_isTold k σ) := ⟨_, rfl⟩
  rw [← hE]
  refine lv_aload_n X.1 X.2.1 dX8_isTold_0 rfl (lv_at hl 0 rfl) ?_
  refine r_ei I (r_runV X I pk_X8_houses (c8_houses l G (k := k) hk _ _) lm_X8_54 (Nat.lt_of_le_of_lt (Nat.add_le_add_left (show 0 ≤ 2 by decide) k) hk.1) (cl_8 hk.2.1) rfl rfl rfl hl.1 rfl (Nat.le_of_ble_eq_true rfl) dX8_isTold_1 ⟨Nat.le_of_ble_eq_true rfl, Nat.le_of_ble_eq_true rfl⟩ ⟨Nat.le_refl 0, Nat.le_refl 0⟩) (fun H locs I => ?_)
  refine lv_if_le (tgt := 11) X.1 X.2.1 dX8_isTold_4 (by decide) (fun c_1 => ?_) (fun c_1 => ?_)
  · skip
    refine lv_iconst (v := 0) X.1 X.2.1 dX8_isTold_11 (by decide) ?_
    have h9 := hE.trans ((if_pos c_1).trans rfl)
    exact r_zret X I rfl (e_i (congrArg b2i (h9)).symm rfl rfl) dX8_isTold_12
  · skip
    refine lv_iconst (v := 1) X.1 X.2.1 dX8_isTold_7 (by decide) ?_
    refine lv_goto (tgt := 12) X.1 X.2.1 dX8_isTold_8 (by decide) ?_
    have h9 := hE.trans ((if_neg c_1).trans rfl)
    exact r_zret X I rfl (e_i (congrArg b2i (h9)).symm rfl rfl) dX8_isTold_12
def f8_growth (k : Nat) (σ : SI) : Int32 := (f11_cell (k + 1) 36 σ (2 : Int32))
set_option maxHeartbeats 4000000 in
set_option maxRecDepth 100000 in
theorem c8_growth (l : Launch) (G : GT) {k : Nat} (hk : isTown k) (σ : SI) (τ : SL) : Mc l yX8_growth cX8_growth 1 (some .int) 1 G [.ref (G.2.1 k)] σ τ (Qi G (Ei (f8_growth k σ) σ τ)) := by
  refine m_start (by decide +kernel) (Nat.le_of_ble_eq_true rfl) rfl (fun p e s m args below meth c ls X I hl => ?_)
  have hl : lv_has ls 1 [(0, .ref (G.2.1 k))] := hl
  obtain ⟨E, hE⟩ : ∃ E, E = (f8_growth k σ) := ⟨_, rfl⟩
  rw [← hE]
  refine lv_aload_n X.1 X.2.1 dX8_growth_0 rfl (lv_at hl 0 rfl) ?_
  refine g8_0 X I (k := k) (Nat.lt_of_le_of_lt (Nat.add_le_add_left (show 0 ≤ 2 by decide) k) hk.1) hk.2.1 lf_X8_9 dX8_growth_1 ?_
  refine lv_iconst (v := 2) X.1 X.2.1 dX8_growth_4 (by decide) ?_
  refine r_ei I (r_runN X I pk_X11_cell (c11_cell l G (k := (k + 1)) (n := 36) (Nat.lt_of_le_of_lt (Nat.add_le_add_left (show 1 ≤ 2 by decide) k) hk.1) hk.2.2.1 (by decide) _ _ _) (by decide +kernel) rfl hl.1 rfl (Nat.le_of_ble_eq_true rfl) dX8_growth_5 ⟨Nat.le_of_ble_eq_true rfl, Nat.le_of_ble_eq_true rfl⟩ ⟨Nat.le_refl 0, Nat.le_refl 0⟩) (fun H locs I => ?_)
  have h9 := hE
  exact r_iret X I (e_i (h9).symm rfl rfl) dX8_growth_8
def f9_draft : Option Nat := (some 4)
set_option maxHeartbeats 4000000 in
set_option maxRecDepth 100000 in
theorem c9_draft (l : Launch) (G : GT) (σ : SI) (τ : SL) : Mc l yX9_draft cX9_draft 1 (some (.object "SaintCarried$Town")) 0 G [.ref (G.2.1 3)] σ τ (Qq G (Eq1 (f9_draft.map G.2.1) σ τ)) := by
  refine m_start (by decide +kernel) (Nat.le_of_ble_eq_true rfl) rfl (fun p e s m args below meth c ls X I hl => ?_)
  have hl : lv_has ls 1 [(0, .ref (G.2.1 3))] := hl
  obtain ⟨E, hE⟩ : ∃ E, E = f9_draft := ⟨_, rfl⟩
  rw [← hE]
  refine lv_aload_n X.1 X.2.1 dX9_draft_0 rfl (lv_at hl 0 rfl) ?_
  refine g9_1 X I (k := 3) (by decide) rfl lf_X9_18 dX9_draft_1 ?_
  have h9 := hE
  exact r_qret (v := some _) X I (Or.inl ⟨_, rfl⟩) (e_q (congrArg (Option.map G.2.1) (h9)).symm rfl rfl) dX9_draft_4
def f11_indexOfS_c2 (j : Nat) (x1 : Int32) : Nat → Int32 → Int32
  | 0, _ => 0
  | fu + 1, v2 => if (Int32.ofNat (zL j)) ≤ v2 then (-1 : Int32) else (if (zF j (Int32.toNatClampNeg v2)) = x1 then v2 else (f11_indexOfS_c2 j x1 fu (v2 + 1)))
def f11_indexOfS (j : Nat) (x1 : Int32) : Int32 := (f11_indexOfS_c2 j x1 ((Int32.toInt (Int32.ofNat (zL j)) - Int32.toInt (0 : Int32)).toNat + 1) (0 : Int32))
set_option maxHeartbeats 4000000 in
set_option maxRecDepth 100000 in
theorem c11_indexOfS_c2 {l : Launch} {p : Program} {e : Env} {s : State} {m : MethodId} {args : Array Value} {below : List Frame} {meth : Method} {c : Code} {G : GT} (X : CX p s m args meth c cX11_indexOf RX11 3 (some .int) G) (j : Nat) (hj : j < 9) {E : Int32} (σ : SI) (τ : SL) (x1 : Int32) : ∀ (fu : Nat) (v2 : Int32) (H : Heap) (locs : List Loc) (ls : Array Slot), IX G s H locs σ τ → lv_has ls 3 [(0, .ref (G.2.2.2 j)), (1, .int x1), (2, .int v2)] → ¬ v2 < 0 → (Int32.toInt (Int32.ofNat (zL j)) - Int32.toInt v2).toNat < fu → E = (f11_indexOfS_c2 j x1 fu v2) → W p l e (rmN 0) s m args below meth c H locs 0 0 (MQ below ((Qi G (Ei E σ τ)) s.heap.size) args s 0 0 (AW G s.heap.size)) (F0 m 2 ls []) := by
  intro fu
  induction fu with
  | zero =>
    intro v2 H locs ls I hl h0 hm hE
    exact absurd hm (Nat.not_lt_zero _)
  | succ fu ih =>
    intro v2 H locs ls I hl h0 hm hE
    refine lv_iload_n X.1 X.2.1 dX11_indexOf_2 rfl (lv_at hl 2 rfl) ?_
    refine lv_aload_n X.1 X.2.1 dX11_indexOf_3 rfl (lv_at hl 0 rfl) ?_
    refine r_stlen X I j hj rfl dX11_indexOf_4 ?_
    refine lv_icmp_ge (tgt := 23) X.1 X.2.1 dX11_indexOf_5 (by decide) (fun c_1 => ?_) (fun c_1 => ?_)
    · skip
      refine lv_iconst (v := (-1)) X.1 X.2.1 dX11_indexOf_23 (by decide) ?_
      have h9 := hE.trans ((if_pos c_1).trans rfl)
      exact r_iret X I (e_i (h9).symm rfl rfl) dX11_indexOf_24
    · skip
      refine lv_aload_n X.1 X.2.1 dX11_indexOf_8 rfl (lv_at hl 0 rfl) ?_
      refine lv_iload_n X.1 X.2.1 dX11_indexOf_9 rfl (lv_at hl 2 rfl) ?_
      refine r_stld X I j hj (vp_g (n := (zL j)) (zL_lt hj) h0 c_1) dX11_indexOf_10 ?_
      refine lv_iload_n X.1 X.2.1 dX11_indexOf_11 rfl (lv_at hl 1 rfl) ?_
      refine lv_icmp_ne (tgt := 17) X.1 X.2.1 dX11_indexOf_12 (by decide) (fun c_2 => ?_) (fun c_2 => ?_)
      · skip
        refine lv_iinc (v := _ + 1) (lv' := [(2, .int _), (0, .ref _), (1, .int _)]) X.1 X.2.1 dX11_indexOf_17 hl (k := 2) rfl rfl (by decide) rfl (fun ls hl => ?_)
        refine lv_goto (tgt := 2) X.1 X.2.1 dX11_indexOf_20 (by decide) ?_
        exact ih _ _ _ _ I (lv_sub hl [1, 2, 0] rfl) (up_nn h0 c_1) (Nat.lt_of_lt_of_le (up_dec c_1) (Nat.le_of_lt_succ hm)) (hE.trans ((if_neg c_1).trans ((if_neg c_2).trans rfl)))
      · skip
        refine lv_iload_n X.1 X.2.1 dX11_indexOf_15 rfl (lv_at hl 2 rfl) ?_
        have h9 := hE.trans ((if_neg c_1).trans ((if_pos c_2).trans rfl))
        exact r_iret X I (e_i (h9).symm rfl rfl) dX11_indexOf_16
set_option maxHeartbeats 4000000 in
set_option maxRecDepth 100000 in
theorem c11_indexOfS (l : Launch) (G : GT) (j : Nat) (hj : j < 9) (σ : SI) (τ : SL) (x1 : Int32) : Mc l yX11_indexOf cX11_indexOf 3 (some .int) 0 G [.ref (G.2.2.2 j), .int x1] σ τ (Qi G (Ei (f11_indexOfS j x1) σ τ)) := by
  refine m_start (by decide +kernel) (Nat.le_of_ble_eq_true rfl) rfl (fun p e s m args below meth c ls X I hl => ?_)
  have hl : lv_has ls 3 [(0, .ref (G.2.2.2 j)), (1, .int x1)] := hl
  obtain ⟨E, hE⟩ : ∃ E, E = (f11_indexOfS j x1) := ⟨_, rfl⟩
  rw [← hE]
  refine lv_iconst (v := 0) X.1 X.2.1 dX11_indexOf_0 (by decide) ?_
  refine lv_istore_n (lv' := [(2, .int _), (0, .ref _), (1, .int _)]) X.1 X.2.1 dX11_indexOf_1 rfl hl (by decide) rfl (fun ls hl => ?_)
  exact c11_indexOfS_c2 X j hj _ _ _ _ _ _ _ _ I (lv_sub hl [1, 2, 0] rfl) (by decide) (Nat.lt_succ_self _) (hE.trans (rfl))
def f9_itemOf_c2 (x0 : Int32) (x1 : Int32) : Nat → Int32 → Int32
  | 0, _ => 0
  | fu + 1, v2 => if (f11_cellS 3 x0) ≤ v2 then (-1 : Int32) else (if (f11_cellS 5 ((f11_cellS 4 x0) + v2)) = x1 then v2 else (f9_itemOf_c2 x0 x1 fu (v2 + 1)))
def f9_itemOf (x0 : Int32) (x1 : Int32) : Int32 := (f9_itemOf_c2 x0 x1 ((Int32.toInt (f11_cellS 3 x0) - Int32.toInt (0 : Int32)).toNat + 1) (0 : Int32))
set_option maxHeartbeats 4000000 in
set_option maxRecDepth 100000 in
theorem c9_itemOf_c2 {l : Launch} {p : Program} {e : Env} {s : State} {m : MethodId} {args : Array Value} {below : List Frame} {meth : Method} {c : Code} {G : GT} (X : CX p s m args meth c cX9_itemOf RX9 3 (some .int) G) {E : Int32} (σ : SI) (τ : SL) (x0 : Int32) (x1 : Int32) : ∀ (fu : Nat) (v2 : Int32) (H : Heap) (locs : List Loc) (ls : Array Slot), IX G s H locs σ τ → lv_has ls 3 [(0, .int x0), (1, .int x1), (2, .int v2)] → (Int32.toInt (f11_cellS 3 x0) - Int32.toInt v2).toNat < fu → E = (f9_itemOf_c2 x0 x1 fu v2) → W p l e (rmN 1) s m args below meth c H locs 0 0 (MQ below ((Qi G (Ei E σ τ)) s.heap.size) args s 0 0 (AW G s.heap.size)) (F0 m 2 ls []) := by
  intro fu
  induction fu with
  | zero =>
    intro v2 H locs ls I hl  hm hE
    exact absurd hm (Nat.not_lt_zero _)
  | succ fu ih =>
    intro v2 H locs ls I hl  hm hE
    refine lv_iload_n X.1 X.2.1 dX9_itemOf_2 rfl (lv_at hl 2 rfl) ?_
    refine r_sget X I 3 (by decide) (index := 83) (by decide +kernel) dX9_itemOf_3 ?_
    refine lv_iload_n X.1 X.2.1 dX9_itemOf_6 rfl (lv_at hl 0 rfl) ?_
    refine r_ei I (r_runN X I pk_X11_cell (c11_cellS l G 3 (by decide) _ _ _) (by decide +kernel) rfl hl.1 rfl (Nat.le_of_ble_eq_true rfl) dX9_itemOf_7 ⟨Nat.le_of_ble_eq_true rfl, Nat.le_of_ble_eq_true rfl⟩ ⟨Nat.le_refl 0, Nat.le_refl 0⟩) (fun H locs I => ?_)
    refine lv_icmp_ge (tgt := 40) X.1 X.2.1 dX9_itemOf_10 (by decide) (fun c_1 => ?_) (fun c_1 => ?_)
    · skip
      refine lv_iconst (v := (-1)) X.1 X.2.1 dX9_itemOf_40 (by decide) ?_
      have h9 := hE.trans ((if_pos c_1).trans rfl)
      exact r_iret X I (e_i (h9).symm rfl rfl) dX9_itemOf_41
    · skip
      refine r_sget X I 5 (by decide) (index := 86) (by decide +kernel) dX9_itemOf_13 ?_
      refine r_sget X I 4 (by decide) (index := 74) (by decide +kernel) dX9_itemOf_16 ?_
      refine lv_iload_n X.1 X.2.1 dX9_itemOf_19 rfl (lv_at hl 0 rfl) ?_
      refine r_ei I (r_runN X I pk_X11_cell (c11_cellS l G 4 (by decide) _ _ _) (by decide +kernel) rfl hl.1 rfl (Nat.le_of_ble_eq_true rfl) dX9_itemOf_20 ⟨Nat.le_of_ble_eq_true rfl, Nat.le_of_ble_eq_true rfl⟩ ⟨Nat.le_refl 0, Nat.le_refl 0⟩) (fun H locs I => ?_)
      refine lv_iload_n X.1 X.2.1 dX9_itemOf_23 rfl (lv_at hl 2 rfl) ?_
      refine lv_iadd X.1 X.2.1 dX9_itemOf_24 ?_
      refine r_ei I (r_runN X I pk_X11_cell (c11_cellS l G 5 (by decide) _ _ _) (by decide +kernel) rfl hl.1 rfl (Nat.le_of_ble_eq_true rfl) dX9_itemOf_25 ⟨Nat.le_of_ble_eq_true rfl, Nat.le_of_ble_eq_true rfl⟩ ⟨Nat.le_refl 0, Nat.le_refl 0⟩) (fun H locs I => ?_)
      refine lv_iload_n X.1 X.2.1 dX9_itemOf_28 rfl (lv_at hl 1 rfl) ?_
      refine lv_icmp_ne (tgt := 34) X.1 X.2.1 dX9_itemOf_29 (by decide) (fun c_2 => ?_) (fun c_2 => ?_)
      · skip
        refine lv_iinc (v := _ + 1) (lv' := [(2, .int _), (0, .int _), (1, .int _)]) X.1 X.2.1 dX9_itemOf_34 hl (k := 2) rfl rfl (by decide) rfl (fun ls hl => ?_)
        refine lv_goto (tgt := 2) X.1 X.2.1 dX9_itemOf_37 (by decide) ?_
        exact ih _ _ _ _ I (lv_sub hl [1, 2, 0] rfl) (Nat.lt_of_lt_of_le (up_dec c_1) (Nat.le_of_lt_succ hm)) (hE.trans ((if_neg c_1).trans ((if_neg c_2).trans rfl)))
      · skip
        refine lv_iload_n X.1 X.2.1 dX9_itemOf_32 rfl (lv_at hl 2 rfl) ?_
        have h9 := hE.trans ((if_neg c_1).trans ((if_pos c_2).trans rfl))
        exact r_iret X I (e_i (h9).symm rfl rfl) dX9_itemOf_33
set_option maxHeartbeats 4000000 in
set_option maxRecDepth 100000 in
theorem c9_itemOf (l : Launch) (G : GT) (σ : SI) (τ : SL) (x0 : Int32) (x1 : Int32) : Mc l yX9_itemOf cX9_itemOf 3 (some .int) 1 G [.int x0, .int x1] σ τ (Qi G (Ei (f9_itemOf x0 x1) σ τ)) := by
  refine m_start (by decide +kernel) (Nat.le_of_ble_eq_true rfl) rfl (fun p e s m args below meth c ls X I hl => ?_)
  have hl : lv_has ls 3 [(0, .int x0), (1, .int x1)] := hl
  obtain ⟨E, hE⟩ : ∃ E, E = (f9_itemOf x0 x1) := ⟨_, rfl⟩
  rw [← hE]
  refine lv_iconst (v := 0) X.1 X.2.1 dX9_itemOf_0 (by decide) ?_
  refine lv_istore_n (lv' := [(2, .int _), (0, .int _), (1, .int _)]) X.1 X.2.1 dX9_itemOf_1 rfl hl (by decide) rfl (fun ls hl => ?_)
  exact c9_itemOf_c2 X _ _ _ _ _ _ _ _ _ I (lv_sub hl [1, 2, 0] rfl) (Nat.lt_succ_self _) (hE.trans (rfl))
def f9_readsNumber (σ : SI) (x1 : Int32) (x2 : Int32) : Bool × SI := let r0 := (f7_takeNumber σ (2 : Int32)); if r0.1 = (-1 : Int32) then (false, r0.2) else (if r0.1 < (f11_cellS 6 x2) then (let r1 := (f7_failsAtLastDigit r0.2); (r1.1, r1.2)) else (if r0.1 ≤ (f11_cellS 7 x2) then (let s2 := (f8_put 4 r0.2 x1 r0.1); (true, s2)) else (let r3 := (f7_failsAtLastDigit r0.2); (r3.1, r3.2))))
theorem w_f9_readsNumber (σ : SI) (x1 : Int32) (x2 : Int32) (a : Nat) (h0 : a ≠ 1) (h1 : a ≠ 5) : (f9_readsNumber σ x1 x2).2 a = σ a := by
  unfold f9_readsNumber
  (repeat' split) <;> (first | rfl | (simp only [sp_n, su_n, ne_eq, not_false_eq_true, h0, h1, w_f7_failsAtLastDigit, w_f7_takeNumber, w_f8_put]; done) | (simp [sp_n, su_n, ne_eq, not_false_eq_true, h0, h1, w_f7_failsAtLastDigit, w_f7_takeNumber, w_f8_put]; done))
set_option maxHeartbeats 4000000 in
set_option maxRecDepth 100000 in
theorem c9_readsNumber (l : Launch) (G : GT) (σ : SI) (τ : SL) (x1 : Int32) (x2 : Int32) : Mc l yX9_readsNumber cX9_readsNumber 4 (some .boolean) 3 G [.ref (G.2.1 3), .int x1, .int x2] σ τ (Qi G (Ei (b2i (f9_readsNumber σ x1 x2).1) (f9_readsNumber σ x1 x2).2 τ)) := by
  refine m_start (by decide +kernel) (Nat.le_of_ble_eq_true rfl) rfl (fun p e s m args below meth c ls X I hl => ?_)
  have hl : lv_has ls 4 [(0, .ref (G.2.1 3)), (1, .int x1), (2, .int x2)] := hl
  obtain ⟨E, hE⟩ : ∃ E, E = (f9_readsNumber σ x1 x2) := ⟨_, rfl⟩
  rw [← hE]
  refine lv_aload_n X.1 X.2.1 dX9_readsNumber_0 rfl (lv_at hl 0 rfl) ?_
  refine g9_0 X I (k := 3) (by decide) rfl lf_X9_9 dX9_readsNumber_1 ?_
  refine lv_iconst (v := 2) X.1 X.2.1 dX9_readsNumber_4 (by decide) ?_
  refine r_ei I (r_runV X I pk_X7_takeNumber (c7_takeNumber l G _ _ _ (by decide)) lm_X9_89 (by decide) (cl_7 rfl) rfl rfl rfl hl.1 rfl (Nat.le_of_ble_eq_true rfl) dX9_readsNumber_5 ⟨Nat.le_of_ble_eq_true rfl, Nat.le_of_ble_eq_true rfl⟩ ⟨Nat.le_refl 0, Nat.le_refl 0⟩) (fun H locs I => ?_)
  refine lv_istore_n (lv' := [(3, .int _), (0, .ref _), (1, .int _), (2, .int _)]) X.1 X.2.1 dX9_readsNumber_8 rfl hl (by decide) rfl (fun ls hl => ?_)
  refine lv_iload_n X.1 X.2.1 dX9_readsNumber_9 rfl (lv_at hl 0 rfl) ?_
  refine lv_iconst (v := (-1)) X.1 X.2.1 dX9_readsNumber_10 (by decide) ?_
  refine lv_icmp_ne (tgt := 16) X.1 X.2.1 dX9_readsNumber_11 (by decide) (fun c_1 => ?_) (fun c_1 => ?_)
  · skip
    refine lv_iload_n X.1 X.2.1 dX9_readsNumber_16 rfl (lv_at hl 0 rfl) ?_
    refine r_sget X I 6 (by decide) (index := 92) (by decide +kernel) dX9_readsNumber_17 ?_
    refine lv_iload_n X.1 X.2.1 dX9_readsNumber_20 rfl (lv_at hl 3 rfl) ?_
    refine r_ei I (r_runN X I pk_X11_cell (c11_cellS l G 6 (by decide) _ _ _) (by decide +kernel) rfl hl.1 rfl (Nat.le_of_ble_eq_true rfl) dX9_readsNumber_21 ⟨Nat.le_of_ble_eq_true rfl, Nat.le_of_ble_eq_true rfl⟩ ⟨Nat.le_refl 0, Nat.le_refl 0⟩) (fun H locs I => ?_)
    refine lv_icmp_lt (tgt := 38) X.1 X.2.1 dX9_readsNumber_24 (by decide) (fun c_2 => ?_) (fun c_2 => ?_)
    · skip
      refine lv_aload_n X.1 X.2.1 dX9_readsNumber_38 rfl (lv_at hl 1 rfl) ?_
      refine g9_0 X I (k := 3) (by decide) rfl lf_X9_9 dX9_readsNumber_39 ?_
      refine r_ei I (r_runV X I pk_X7_failsAtLastDigit (c7_failsAtLastDigit l G _ _) lm_X9_98 (by decide) (cl_7 rfl) rfl rfl rfl hl.1 rfl (Nat.le_of_ble_eq_true rfl) dX9_readsNumber_42 ⟨Nat.le_of_ble_eq_true rfl, Nat.le_of_ble_eq_true rfl⟩ ⟨Nat.le_refl 0, Nat.le_refl 0⟩) (fun H locs I => ?_)
      have h9 := hE.trans ((if_neg c_1).trans ((if_pos c_2).trans rfl))
      exact r_zret X I (b2i_nar _) (e_i (congrArg b2i (congrArg Prod.fst h9)).symm (congrArg Prod.snd h9).symm rfl) dX9_readsNumber_45
    · skip
      refine lv_iload_n X.1 X.2.1 dX9_readsNumber_27 rfl (lv_at hl 0 rfl) ?_
      refine r_sget X I 7 (by decide) (index := 95) (by decide +kernel) dX9_readsNumber_28 ?_
      refine lv_iload_n X.1 X.2.1 dX9_readsNumber_31 rfl (lv_at hl 3 rfl) ?_
      refine r_ei I (r_runN X I pk_X11_cell (c11_cellS l G 7 (by decide) _ _ _) (by decide +kernel) rfl hl.1 rfl (Nat.le_of_ble_eq_true rfl) dX9_readsNumber_32 ⟨Nat.le_of_ble_eq_true rfl, Nat.le_of_ble_eq_true rfl⟩ ⟨Nat.le_refl 0, Nat.le_refl 0⟩) (fun H locs I => ?_)
      refine lv_icmp_le (tgt := 46) X.1 X.2.1 dX9_readsNumber_35 (by decide) (fun c_3 => ?_) (fun c_3 => ?_)
      · skip
        refine lv_aload_n X.1 X.2.1 dX9_readsNumber_46 rfl (lv_at hl 1 rfl) ?_
        refine g9_1 X I (k := 3) (by decide) rfl lf_X9_18 dX9_readsNumber_47 ?_
        refine lv_iload_n X.1 X.2.1 dX9_readsNumber_50 rfl (lv_at hl 2 rfl) ?_
        refine lv_iload_n X.1 X.2.1 dX9_readsNumber_51 rfl (lv_at hl 0 rfl) ?_
        refine r_ev I (r_runV X I pk_X8_put (c8_put l G (k := 4) ⟨by decide, rfl, rfl, rfl⟩ _ _ _ _) lm_X9_101 (by decide) (cl_8 rfl) rfl rfl rfl hl.1 rfl (Nat.le_of_ble_eq_true rfl) dX9_readsNumber_52 ⟨Nat.le_of_ble_eq_true rfl, Nat.le_of_ble_eq_true rfl⟩ ⟨Nat.le_refl 0, Nat.le_refl 0⟩) (fun H locs I => ?_)
        refine lv_iconst (v := 1) X.1 X.2.1 dX9_readsNumber_55 (by decide) ?_
        have h9 := hE.trans ((if_neg c_1).trans ((if_neg c_2).trans ((if_pos c_3).trans rfl)))
        exact r_zret X I rfl (e_i (congrArg b2i (congrArg Prod.fst h9)).symm (congrArg Prod.snd h9).symm rfl) dX9_readsNumber_56
      · skip
        refine lv_aload_n X.1 X.2.1 dX9_readsNumber_38 rfl (lv_at hl 1 rfl) ?_
        refine g9_0 X I (k := 3) (by decide) rfl lf_X9_9 dX9_readsNumber_39 ?_
        refine r_ei I (r_runV X I pk_X7_failsAtLastDigit (c7_failsAtLastDigit l G _ _) lm_X9_98 (by decide) (cl_7 rfl) rfl rfl rfl hl.1 rfl (Nat.le_of_ble_eq_true rfl) dX9_readsNumber_42 ⟨Nat.le_of_ble_eq_true rfl, Nat.le_of_ble_eq_true rfl⟩ ⟨Nat.le_refl 0, Nat.le_refl 0⟩) (fun H locs I => ?_)
        have h9 := hE.trans ((if_neg c_1).trans ((if_neg c_2).trans ((if_neg c_3).trans rfl)))
        exact r_zret X I (b2i_nar _) (e_i (congrArg b2i (congrArg Prod.fst h9)).symm (congrArg Prod.snd h9).symm rfl) dX9_readsNumber_45
  · skip
    refine lv_iconst (v := 0) X.1 X.2.1 dX9_readsNumber_14 (by decide) ?_
    have h9 := hE.trans ((if_pos c_1).trans rfl)
    exact r_zret X I rfl (e_i (congrArg b2i (congrArg Prod.fst h9)).symm (congrArg Prod.snd h9).symm rfl) dX9_readsNumber_15
def f9_readsClause_c48 (x1 : Int32) (x2 : Int32) : Nat → Int32 → Int32 → SI → (Bool × SI)
  | 0, _, _, σ => (false, σ)
  | fu + 1, v3, v4, σ => if (4 : Int32) < v4 then (let r3 := (f7_fails σ); (r3.1, r3.2)) else (let r4 := (f7_peek σ); if r4.1 = (-1 : Int32) then (true, r4.2) else (if r4.1 = (59 : Int32) then (true, r4.2) else (if (f9_itemOf x1 r4.1) = (-1 : Int32) then (let r5 := (f7_fails r4.2); (r5.1, r5.2)) else (if (f11_hasBit v3 (f9_itemOf x1 r4.1)) = true then (let r8 := (f7_fails r4.2); (r8.1, r8.2)) else (let s6 := (f7_pass r4.2); let r7 := (f9_readsNumber s6 (x2 + (f9_itemOf x1 r4.1)) ((f11_cellS 4 x1) + (f9_itemOf x1 r4.1))); if r7.1 = true then (f9_readsClause_c48 x1 x2 fu (v3 ||| ((1 : Int32) <<< ((f9_itemOf x1 r4.1) &&& 31))) (v4 + 1) r7.2) else (false, r7.2))))))
def f9_readsClause (σ : SI) : Bool × SI := let r0 := (f7_peek σ); let r1 := (f8_open 4 r0.2 (f11_indexOfS 0 r0.1)); if r1.1 = (-1 : Int32) then (let r9 := (f7_fails r1.2); (r9.1, r9.2)) else (let s2 := (f7_pass r1.2); (f9_readsClause_c48 (f11_indexOfS 0 r0.1) r1.1 ((Int32.toInt (4 : Int32) + 1 - Int32.toInt (0 : Int32)).toNat + 1) (0 : Int32) (0 : Int32) s2))
theorem w_f9_readsClause_c48 (x1 : Int32) (x2 : Int32) (a : Nat) (h0 : a ≠ 1) (h1 : a ≠ 5) (h2 : a ≠ 6) : ∀ (fu : Nat) (v3 : Int32) (v4 : Int32) (σ : SI), (f9_readsClause_c48 x1 x2 fu v3 v4 σ).2 a = σ a := by
  intro fu
  induction fu with
  | zero => intros; rfl
  | succ fu ih =>
    intro v3 v4 σ
    unfold f9_readsClause_c48
    (repeat' split) <;> (first | rfl | (simp only [sp_n, su_n, ne_eq, not_false_eq_true, h0, h1, h2, w_f7_fails, w_f7_pass, w_f7_peek, w_f8_open, w_f9_readsNumber, ih]; done) | (simp [sp_n, su_n, ne_eq, not_false_eq_true, h0, h1, h2, w_f7_fails, w_f7_pass, w_f7_peek, w_f8_open, w_f9_readsNumber, ih]; done))
theorem w_f9_readsClause (σ : SI) (a : Nat) (h0 : a ≠ 1) (h1 : a ≠ 5) (h2 : a ≠ 6) : (f9_readsClause σ).2 a = σ a := by
  unfold f9_readsClause
  (repeat' split) <;> (first | rfl | (simp only [sp_n, su_n, ne_eq, not_false_eq_true, h0, h1, h2, w_f7_fails, w_f7_pass, w_f7_peek, w_f8_open, w_f9_readsNumber, w_f9_readsClause_c48]; done) | (simp [sp_n, su_n, ne_eq, not_false_eq_true, h0, h1, h2, w_f7_fails, w_f7_pass, w_f7_peek, w_f8_open, w_f9_readsNumber, w_f9_readsClause_c48]; done))
set_option maxHeartbeats 4000000 in
set_option maxRecDepth 100000 in
theorem c9_readsClause_c48 {l : Launch} {p : Program} {e : Env} {s : State} {m : MethodId} {args : Array Value} {below : List Frame} {meth : Method} {c : Code} {G : GT} (X : CX p s m args meth c cX9_readsClause RX9 7 (some .boolean) G) {E : Bool × SI} (τ : SL) (x1 : Int32) (x2 : Int32) : ∀ (fu : Nat) (v3 : Int32) (v4 : Int32) (σ : SI) (H : Heap) (locs : List Loc) (ls : Array Slot), IX G s H locs σ τ → lv_has ls 7 [(0, .ref (G.2.1 3)), (1, .int x1), (2, .int x2), (3, .int v3), (4, .int v4)] → (Int32.toInt (4 : Int32) + 1 - Int32.toInt v4).toNat < fu → E = (f9_readsClause_c48 x1 x2 fu v3 v4 σ) → W p l e (rmN 4) s m args below meth c H locs 0 0 (MQ below ((Qi G (Ei (b2i E.1) E.2 τ)) s.heap.size) args s 0 0 (AW G s.heap.size)) (F0 m 48 ls []) := by
  intro fu
  induction fu with
  | zero =>
    intro v3 v4 σ H locs ls I hl  hm hE
    exact absurd hm (Nat.not_lt_zero _)
  | succ fu ih =>
    intro v3 v4 σ H locs ls I hl  hm hE
    refine lv_iload X.1 X.2.1 dX9_readsClause_48 (lv_at hl 4 rfl) ?_
    refine lv_iconst (v := 4) X.1 X.2.1 dX9_readsClause_50 (by decide) ?_
    refine lv_icmp_gt (tgt := 152) X.1 X.2.1 dX9_readsClause_51 (by decide) (fun c_2 => ?_) (fun c_2 => ?_)
    · skip
      refine lv_aload_n X.1 X.2.1 dX9_readsClause_152 rfl (lv_at hl 0 rfl) ?_
      refine g9_0 X I (k := 3) (by decide) rfl lf_X9_9 dX9_readsClause_153 ?_
      refine r_ei I (r_runV X I pk_X7_fails (c7_fails l G _ _) lm_X9_48 (by decide) (cl_7 rfl) rfl rfl rfl hl.1 rfl (Nat.le_of_ble_eq_true rfl) dX9_readsClause_156 ⟨Nat.le_of_ble_eq_true rfl, Nat.le_of_ble_eq_true rfl⟩ ⟨Nat.le_refl 0, Nat.le_refl 0⟩) (fun H locs I => ?_)
      have h9 := hE.trans ((if_pos c_2).trans rfl)
      exact r_zret X I (b2i_nar _) (e_i (congrArg b2i (congrArg Prod.fst h9)).symm (congrArg Prod.snd h9).symm rfl) dX9_readsClause_159
    · skip
      refine lv_aload_n X.1 X.2.1 dX9_readsClause_54 rfl (lv_at hl 0 rfl) ?_
      refine g9_0 X I (k := 3) (by decide) rfl lf_X9_9 dX9_readsClause_55 ?_
      refine r_ei I (r_runV X I pk_X7_peek (c7_peek l G _ _) lm_X9_34 (by decide) (cl_7 rfl) rfl rfl rfl hl.1 rfl (Nat.le_of_ble_eq_true rfl) dX9_readsClause_58 ⟨Nat.le_of_ble_eq_true rfl, Nat.le_of_ble_eq_true rfl⟩ ⟨Nat.le_refl 0, Nat.le_refl 0⟩) (fun H locs I => ?_)
      refine lv_istore (lv' := [(5, .int _), (0, .ref _), (1, .int _), (2, .int _), (3, .int _), (4, .int _)]) X.1 X.2.1 dX9_readsClause_61 hl (by decide) rfl (fun ls hl => ?_)
      refine lv_iload X.1 X.2.1 dX9_readsClause_63 (lv_at hl 0 rfl) ?_
      refine lv_iconst (v := (-1)) X.1 X.2.1 dX9_readsClause_65 (by decide) ?_
      refine lv_icmp_eq (tgt := 76) X.1 X.2.1 dX9_readsClause_66 (by decide) (fun c_3 => ?_) (fun c_3 => ?_)
      · skip
        refine lv_iconst (v := 1) X.1 X.2.1 dX9_readsClause_76 (by decide) ?_
        have h9 := hE.trans ((if_neg c_2).trans ((if_pos c_3).trans rfl))
        exact r_zret X I rfl (e_i (congrArg b2i (congrArg Prod.fst h9)).symm (congrArg Prod.snd h9).symm rfl) dX9_readsClause_77
      · skip
        refine lv_iload X.1 X.2.1 dX9_readsClause_69 (lv_at hl 0 rfl) ?_
        refine lv_bipush (v := 59) X.1 X.2.1 dX9_readsClause_71 (by decide) ?_
        refine lv_icmp_ne (tgt := 78) X.1 X.2.1 dX9_readsClause_73 (by decide) (fun c_4 => ?_) (fun c_4 => ?_)
        · skip
          refine lv_iload_n X.1 X.2.1 dX9_readsClause_78 rfl (lv_at hl 2 rfl) ?_
          refine lv_iload X.1 X.2.1 dX9_readsClause_79 (lv_at hl 0 rfl) ?_
          refine r_ei I (r_runS X I pk_X9_itemOf (c9_itemOf l G _ _ _ _) lm_X9_66 rfl hl.1 rfl (Nat.le_of_ble_eq_true rfl) dX9_readsClause_81 ⟨Nat.le_of_ble_eq_true rfl, Nat.le_of_ble_eq_true rfl⟩ ⟨Nat.le_refl 0, Nat.le_refl 0⟩) (fun H locs I => ?_)
          refine lv_istore (lv' := [(6, .int _), (5, .int _), (0, .ref _), (1, .int _), (2, .int _), (3, .int _), (4, .int _)]) X.1 X.2.1 dX9_readsClause_84 hl (by decide) rfl (fun ls hl => ?_)
          refine lv_iload X.1 X.2.1 dX9_readsClause_86 (lv_at hl 0 rfl) ?_
          refine lv_iconst (v := (-1)) X.1 X.2.1 dX9_readsClause_88 (by decide) ?_
          refine lv_icmp_eq (tgt := 101) X.1 X.2.1 dX9_readsClause_89 (by decide) (fun c_5 => ?_) (fun c_5 => ?_)
          · skip
            refine lv_aload_n X.1 X.2.1 dX9_readsClause_101 rfl (lv_at hl 2 rfl) ?_
            refine g9_0 X I (k := 3) (by decide) rfl lf_X9_9 dX9_readsClause_102 ?_
            refine r_ei I (r_runV X I pk_X7_fails (c7_fails l G _ _) lm_X9_48 (by decide) (cl_7 rfl) rfl rfl rfl hl.1 rfl (Nat.le_of_ble_eq_true rfl) dX9_readsClause_105 ⟨Nat.le_of_ble_eq_true rfl, Nat.le_of_ble_eq_true rfl⟩ ⟨Nat.le_refl 0, Nat.le_refl 0⟩) (fun H locs I => ?_)
            have h9 := hE.trans ((if_neg c_2).trans ((if_neg c_3).trans ((if_neg c_4).trans ((if_pos c_5).trans rfl))))
            exact r_zret X I (b2i_nar _) (e_i (congrArg b2i (congrArg Prod.fst h9)).symm (congrArg Prod.snd h9).symm rfl) dX9_readsClause_108
          · skip
            refine lv_iload_n X.1 X.2.1 dX9_readsClause_92 rfl (lv_at hl 5 rfl) ?_
            refine lv_iload X.1 X.2.1 dX9_readsClause_93 (lv_at hl 0 rfl) ?_
            refine r_ei I (r_runN X I pk_X11_hasBit (c11_hasBit l G _ _ _ _) (by decide +kernel) rfl hl.1 rfl (Nat.le_of_ble_eq_true rfl) dX9_readsClause_95 ⟨Nat.le_of_ble_eq_true rfl, Nat.le_of_ble_eq_true rfl⟩ ⟨Nat.le_refl 0, Nat.le_refl 0⟩) (fun H locs I => ?_)
            refine lv_if_eq (tgt := 109) X.1 X.2.1 dX9_readsClause_98 (by decide) (fun c_6 => ?_) (fun c_6 => ?_)
            · skip
              refine lv_iload_n X.1 X.2.1 dX9_readsClause_109 rfl (lv_at hl 5 rfl) ?_
              refine lv_iconst (v := 1) X.1 X.2.1 dX9_readsClause_110 (by decide) ?_
              refine lv_iload X.1 X.2.1 dX9_readsClause_111 (lv_at hl 0 rfl) ?_
              refine lv_ishl X.1 X.2.1 dX9_readsClause_113 ?_
              refine lv_ior X.1 X.2.1 dX9_readsClause_114 ?_
              refine lv_istore_n (lv' := [(3, .int _), (6, .int _), (5, .int _), (0, .ref _), (1, .int _), (2, .int _), (4, .int _)]) X.1 X.2.1 dX9_readsClause_115 rfl hl (by decide) rfl (fun ls hl => ?_)
              refine lv_aload_n X.1 X.2.1 dX9_readsClause_116 rfl (lv_at hl 3 rfl) ?_
              refine g9_0 X I (k := 3) (by decide) rfl lf_X9_9 dX9_readsClause_117 ?_
              refine r_ev I (r_runV X I pk_X7_pass (c7_pass l G _ _) lm_X9_63 (by decide) (cl_7 rfl) rfl rfl rfl hl.1 rfl (Nat.le_of_ble_eq_true rfl) dX9_readsClause_120 ⟨Nat.le_of_ble_eq_true rfl, Nat.le_of_ble_eq_true rfl⟩ ⟨Nat.le_refl 0, Nat.le_refl 0⟩) (fun H locs I => ?_)
              refine lv_aload_n X.1 X.2.1 dX9_readsClause_123 rfl (lv_at hl 3 rfl) ?_
              refine lv_iload_n X.1 X.2.1 dX9_readsClause_124 rfl (lv_at hl 5 rfl) ?_
              refine lv_iload X.1 X.2.1 dX9_readsClause_125 (lv_at hl 1 rfl) ?_
              refine lv_iadd X.1 X.2.1 dX9_readsClause_127 ?_
              refine r_sget X I 4 (by decide) (index := 74) (by decide +kernel) dX9_readsClause_128 ?_
              refine lv_iload_n X.1 X.2.1 dX9_readsClause_131 rfl (lv_at hl 4 rfl) ?_
              refine r_ei I (r_runN X I pk_X11_cell (c11_cellS l G 4 (by decide) _ _ _) (by decide +kernel) rfl hl.1 rfl (Nat.le_of_ble_eq_true rfl) dX9_readsClause_132 ⟨Nat.le_of_ble_eq_true rfl, Nat.le_of_ble_eq_true rfl⟩ ⟨Nat.le_refl 0, Nat.le_refl 0⟩) (fun H locs I => ?_)
              refine lv_iload X.1 X.2.1 dX9_readsClause_135 (lv_at hl 1 rfl) ?_
              refine lv_iadd X.1 X.2.1 dX9_readsClause_137 ?_
              refine r_ei I (r_runV X I pk_X9_readsNumber (c9_readsNumber l G _ _ _ _) lm_X9_80 (by decide) (cl_9 rfl) rfl rfl rfl hl.1 rfl (Nat.le_of_ble_eq_true rfl) dX9_readsClause_138 ⟨Nat.le_of_ble_eq_true rfl, Nat.le_of_ble_eq_true rfl⟩ ⟨Nat.le_refl 0, Nat.le_refl 0⟩) (fun H locs I => ?_)
              refine lv_if_ne (tgt := 146) X.1 X.2.1 dX9_readsClause_141 (by decide) (fun c_7 => ?_) (fun c_7 => ?_)
              · skip
                refine lv_iinc (v := _ + 1) (lv' := [(4, .int _), (3, .int _), (6, .int _), (5, .int _), (0, .ref _), (1, .int _), (2, .int _)]) X.1 X.2.1 dX9_readsClause_146 hl (k := 6) rfl rfl (by decide) rfl (fun ls hl => ?_)
                refine lv_goto (tgt := 48) X.1 X.2.1 dX9_readsClause_149 (by decide) ?_
                exact ih _ _ _ _ _ _ I (lv_sub hl [4, 5, 6, 1, 0] rfl) (Nat.lt_of_lt_of_le (up_decE (by decide) c_2) (Nat.le_of_lt_succ hm)) (hE.trans ((if_neg c_2).trans ((if_neg c_3).trans ((if_neg c_4).trans ((if_neg c_5).trans ((if_neg (b2i_n c_6)).trans ((if_pos (b2i_y c_7)).trans rfl)))))))
              · skip
                refine lv_iconst (v := 0) X.1 X.2.1 dX9_readsClause_144 (by decide) ?_
                have h9 := hE.trans ((if_neg c_2).trans ((if_neg c_3).trans ((if_neg c_4).trans ((if_neg c_5).trans ((if_neg (b2i_n c_6)).trans ((if_neg (b2i_n c_7)).trans rfl))))))
                exact r_zret X I rfl (e_i (congrArg b2i (congrArg Prod.fst h9)).symm (congrArg Prod.snd h9).symm rfl) dX9_readsClause_145
            · skip
              refine lv_aload_n X.1 X.2.1 dX9_readsClause_101 rfl (lv_at hl 2 rfl) ?_
              refine g9_0 X I (k := 3) (by decide) rfl lf_X9_9 dX9_readsClause_102 ?_
              refine r_ei I (r_runV X I pk_X7_fails (c7_fails l G _ _) lm_X9_48 (by decide) (cl_7 rfl) rfl rfl rfl hl.1 rfl (Nat.le_of_ble_eq_true rfl) dX9_readsClause_105 ⟨Nat.le_of_ble_eq_true rfl, Nat.le_of_ble_eq_true rfl⟩ ⟨Nat.le_refl 0, Nat.le_refl 0⟩) (fun H locs I => ?_)
              have h9 := hE.trans ((if_neg c_2).trans ((if_neg c_3).trans ((if_neg c_4).trans ((if_neg c_5).trans ((if_pos (b2i_y c_6)).trans rfl)))))
              exact r_zret X I (b2i_nar _) (e_i (congrArg b2i (congrArg Prod.fst h9)).symm (congrArg Prod.snd h9).symm rfl) dX9_readsClause_108
        · skip
          refine lv_iconst (v := 1) X.1 X.2.1 dX9_readsClause_76 (by decide) ?_
          have h9 := hE.trans ((if_neg c_2).trans ((if_neg c_3).trans ((if_pos c_4).trans rfl)))
          exact r_zret X I rfl (e_i (congrArg b2i (congrArg Prod.fst h9)).symm (congrArg Prod.snd h9).symm rfl) dX9_readsClause_77
set_option maxHeartbeats 4000000 in
set_option maxRecDepth 100000 in
theorem c9_readsClause (l : Launch) (G : GT) (σ : SI) (τ : SL) : Mc l yX9_readsClause cX9_readsClause 7 (some .boolean) 4 G [.ref (G.2.1 3)] σ τ (Qi G (Ei (b2i (f9_readsClause σ).1) (f9_readsClause σ).2 τ)) := by
  refine m_start (by decide +kernel) (Nat.le_of_ble_eq_true rfl) rfl (fun p e s m args below meth c ls X I hl => ?_)
  have hl : lv_has ls 7 [(0, .ref (G.2.1 3))] := hl
  obtain ⟨E, hE⟩ : ∃ E, E = (f9_readsClause σ) := ⟨_, rfl⟩
  rw [← hE]
  refine r_sget X I 0 (by decide) (index := 51) (by decide +kernel) dX9_readsClause_0 ?_
  refine lv_aload_n X.1 X.2.1 dX9_readsClause_3 rfl (lv_at hl 0 rfl) ?_
  refine g9_0 X I (k := 3) (by decide) rfl lf_X9_9 dX9_readsClause_4 ?_
  refine r_ei I (r_runV X I pk_X7_peek (c7_peek l G _ _) lm_X9_34 (by decide) (cl_7 rfl) rfl rfl rfl hl.1 rfl (Nat.le_of_ble_eq_true rfl) dX9_readsClause_7 ⟨Nat.le_of_ble_eq_true rfl, Nat.le_of_ble_eq_true rfl⟩ ⟨Nat.le_refl 0, Nat.le_refl 0⟩) (fun H locs I => ?_)
  refine r_ei I (r_runN X I pk_X11_indexOf (c11_indexOfS l G 0 (by decide) _ _ _) (by decide +kernel) rfl hl.1 rfl (Nat.le_of_ble_eq_true rfl) dX9_readsClause_10 ⟨Nat.le_of_ble_eq_true rfl, Nat.le_of_ble_eq_true rfl⟩ ⟨Nat.le_refl 0, Nat.le_refl 0⟩) (fun H locs I => ?_)
  refine lv_istore_n (lv' := [(1, .int _), (0, .ref _)]) X.1 X.2.1 dX9_readsClause_13 rfl hl (by decide) rfl (fun ls hl => ?_)
  refine lv_aload_n X.1 X.2.1 dX9_readsClause_14 rfl (lv_at hl 1 rfl) ?_
  refine g9_1 X I (k := 3) (by decide) rfl lf_X9_18 dX9_readsClause_15 ?_
  refine lv_iload_n X.1 X.2.1 dX9_readsClause_18 rfl (lv_at hl 0 rfl) ?_
  refine r_ei I (r_runV X I pk_X8_open (c8_open l G (k := 4) ⟨by decide, rfl, rfl, rfl⟩ _ _ _) lm_X9_59 (by decide) (cl_8 rfl) rfl rfl rfl hl.1 rfl (Nat.le_of_ble_eq_true rfl) dX9_readsClause_19 ⟨Nat.le_of_ble_eq_true rfl, Nat.le_of_ble_eq_true rfl⟩ ⟨Nat.le_refl 0, Nat.le_refl 0⟩) (fun H locs I => ?_)
  refine lv_istore_n (lv' := [(2, .int _), (1, .int _), (0, .ref _)]) X.1 X.2.1 dX9_readsClause_22 rfl hl (by decide) rfl (fun ls hl => ?_)
  refine lv_iload_n X.1 X.2.1 dX9_readsClause_23 rfl (lv_at hl 0 rfl) ?_
  refine lv_iconst (v := (-1)) X.1 X.2.1 dX9_readsClause_24 (by decide) ?_
  refine lv_icmp_ne (tgt := 36) X.1 X.2.1 dX9_readsClause_25 (by decide) (fun c_1 => ?_) (fun c_1 => ?_)
  · skip
    refine lv_aload_n X.1 X.2.1 dX9_readsClause_36 rfl (lv_at hl 2 rfl) ?_
    refine g9_0 X I (k := 3) (by decide) rfl lf_X9_9 dX9_readsClause_37 ?_
    refine r_ev I (r_runV X I pk_X7_pass (c7_pass l G _ _) lm_X9_63 (by decide) (cl_7 rfl) rfl rfl rfl hl.1 rfl (Nat.le_of_ble_eq_true rfl) dX9_readsClause_40 ⟨Nat.le_of_ble_eq_true rfl, Nat.le_of_ble_eq_true rfl⟩ ⟨Nat.le_refl 0, Nat.le_refl 0⟩) (fun H locs I => ?_)
    refine lv_iconst (v := 0) X.1 X.2.1 dX9_readsClause_43 (by decide) ?_
    refine lv_istore_n (lv' := [(3, .int _), (2, .int _), (1, .int _), (0, .ref _)]) X.1 X.2.1 dX9_readsClause_44 rfl hl (by decide) rfl (fun ls hl => ?_)
    refine lv_iconst (v := 0) X.1 X.2.1 dX9_readsClause_45 (by decide) ?_
    refine lv_istore (lv' := [(4, .int _), (3, .int _), (2, .int _), (1, .int _), (0, .ref _)]) X.1 X.2.1 dX9_readsClause_46 hl (by decide) rfl (fun ls hl => ?_)
    exact c9_readsClause_c48 X _ _ _ _ _ _ _ _ _ _ I (lv_sub hl [4, 3, 2, 1, 0] rfl) (Nat.lt_succ_self _) (hE.trans ((if_neg c_1).trans rfl))
  · skip
    refine lv_aload_n X.1 X.2.1 dX9_readsClause_28 rfl (lv_at hl 2 rfl) ?_
    refine g9_0 X I (k := 3) (by decide) rfl lf_X9_9 dX9_readsClause_29 ?_
    refine r_ei I (r_runV X I pk_X7_fails (c7_fails l G _ _) lm_X9_48 (by decide) (cl_7 rfl) rfl rfl rfl hl.1 rfl (Nat.le_of_ble_eq_true rfl) dX9_readsClause_32 ⟨Nat.le_of_ble_eq_true rfl, Nat.le_of_ble_eq_true rfl⟩ ⟨Nat.le_refl 0, Nat.le_refl 0⟩) (fun H locs I => ?_)
    have h9 := hE.trans ((if_pos c_1).trans rfl)
    exact r_zret X I (b2i_nar _) (e_i (congrArg b2i (congrArg Prod.fst h9)).symm (congrArg Prod.snd h9).symm rfl) dX9_readsClause_35
def f9_reads_c16 : Nat → Int32 → SI → (Bool × SI)
  | 0, _, σ => (false, σ)
  | fu + 1, v1, σ => if (240 : Int32) ≤ v1 then (let r2 := (f7_fails σ); (r2.1, r2.2)) else (let r3 := (f9_readsClause σ); if r3.1 = true then (let r4 := (f7_peek r3.2); if r4.1 = (-1 : Int32) then (if (f8_isWhole 4 r4.2) = true then (true, r4.2) else (let r6 := (f7_failsAtEnd r4.2); if r6.1 = true then (true, r6.2) else (false, r6.2))) else (let r5 := (f7_takes r4.2 (59 : Int32)); if r5.1 = true then (f9_reads_c16 fu (v1 + 1) r5.2) else (false, r5.2))) else (false, r3.2))
def f9_reads (σ : SI) : Bool × SI := let s0 := (f7_rewind σ); let s1 := (f8_clear 4 s0); (f9_reads_c16 ((Int32.toInt (240 : Int32) - Int32.toInt (0 : Int32)).toNat + 1) (0 : Int32) s1)
theorem w_f9_reads_c16 (a : Nat) (h0 : a ≠ 1) (h1 : a ≠ 5) (h2 : a ≠ 6) : ∀ (fu : Nat) (v1 : Int32) (σ : SI), (f9_reads_c16 fu v1 σ).2 a = σ a := by
  intro fu
  induction fu with
  | zero => intros; rfl
  | succ fu ih =>
    intro v1 σ
    unfold f9_reads_c16
    (repeat' split) <;> (first | rfl | (simp only [sp_n, su_n, ne_eq, not_false_eq_true, h0, h1, h2, w_f7_fails, w_f7_failsAtEnd, w_f7_peek, w_f7_rewind, w_f7_takes, w_f8_clear, w_f9_readsClause, ih]; done) | (simp [sp_n, su_n, ne_eq, not_false_eq_true, h0, h1, h2, w_f7_fails, w_f7_failsAtEnd, w_f7_peek, w_f7_rewind, w_f7_takes, w_f8_clear, w_f9_readsClause, ih]; done))
theorem w_f9_reads (σ : SI) (a : Nat) (h0 : a ≠ 1) (h1 : a ≠ 5) (h2 : a ≠ 6) : (f9_reads σ).2 a = σ a := by
  unfold f9_reads
  (repeat' split) <;> (first | rfl | (simp only [sp_n, su_n, ne_eq, not_false_eq_true, h0, h1, h2, w_f7_fails, w_f7_failsAtEnd, w_f7_peek, w_f7_rewind, w_f7_takes, w_f8_clear, w_f9_readsClause, w_f9_reads_c16]; done) | (simp [sp_n, su_n, ne_eq, not_false_eq_true, h0, h1, h2, w_f7_fails, w_f7_failsAtEnd, w_f7_peek, w_f7_rewind, w_f7_takes, w_f8_clear, w_f9_readsClause, w_f9_reads_c16]; done))
set_option maxHeartbeats 4000000 in
set_option maxRecDepth 100000 in
theorem c9_reads_c16 {l : Launch} {p : Program} {e : Env} {s : State} {m : MethodId} {args : Array Value} {below : List Frame} {meth : Method} {c : Code} {G : GT} (X : CX p s m args meth c cX9_reads RX9 2 (some .boolean) G) {E : Bool × SI} (τ : SL) : ∀ (fu : Nat) (v1 : Int32) (σ : SI) (H : Heap) (locs : List Loc) (ls : Array Slot), IX G s H locs σ τ → lv_has ls 2 [(0, .ref (G.2.1 3)), (1, .int v1)] → (Int32.toInt (240 : Int32) - Int32.toInt v1).toNat < fu → E = (f9_reads_c16 fu v1 σ) → W p l e (rmN 8) s m args below meth c H locs 0 0 (MQ below ((Qi G (Ei (b2i E.1) E.2 τ)) s.heap.size) args s 0 0 (AW G s.heap.size)) (F0 m 16 ls []) := by
  intro fu
  induction fu with
  | zero =>
    intro v1 σ H locs ls I hl  hm hE
    exact absurd hm (Nat.not_lt_zero _)
  | succ fu ih =>
    intro v1 σ H locs ls I hl  hm hE
    refine lv_iload_n X.1 X.2.1 dX9_reads_16 rfl (lv_at hl 1 rfl) ?_
    refine lv_sipush (v := 240) X.1 X.2.1 dX9_reads_17 (by decide) ?_
    refine lv_icmp_ge (tgt := 89) X.1 X.2.1 dX9_reads_20 (by decide) (fun c_1 => ?_) (fun c_1 => ?_)
    · skip
      refine lv_aload_n X.1 X.2.1 dX9_reads_89 rfl (lv_at hl 0 rfl) ?_
      refine g9_0 X I (k := 3) (by decide) rfl lf_X9_9 dX9_reads_90 ?_
      refine r_ei I (r_runV X I pk_X7_fails (c7_fails l G _ _) lm_X9_48 (by decide) (cl_7 rfl) rfl rfl rfl hl.1 rfl (Nat.le_of_ble_eq_true rfl) dX9_reads_93 ⟨Nat.le_of_ble_eq_true rfl, Nat.le_of_ble_eq_true rfl⟩ ⟨Nat.le_refl 0, Nat.le_refl 0⟩) (fun H locs I => ?_)
      have h9 := hE.trans ((if_pos c_1).trans rfl)
      exact r_zret X I (b2i_nar _) (e_i (congrArg b2i (congrArg Prod.fst h9)).symm (congrArg Prod.snd h9).symm rfl) dX9_reads_96
    · skip
      refine lv_aload_n X.1 X.2.1 dX9_reads_23 rfl (lv_at hl 0 rfl) ?_
      refine r_ei I (r_runV X I pk_X9_readsClause (c9_readsClause l G _ _) lm_X9_30 (by decide) (cl_9 rfl) rfl rfl rfl hl.1 rfl (Nat.le_of_ble_eq_true rfl) dX9_reads_24 ⟨Nat.le_of_ble_eq_true rfl, Nat.le_of_ble_eq_true rfl⟩ ⟨Nat.le_refl 0, Nat.le_refl 0⟩) (fun H locs I => ?_)
      refine lv_if_ne (tgt := 32) X.1 X.2.1 dX9_reads_27 (by decide) (fun c_2 => ?_) (fun c_2 => ?_)
      · skip
        refine lv_aload_n X.1 X.2.1 dX9_reads_32 rfl (lv_at hl 0 rfl) ?_
        refine g9_0 X I (k := 3) (by decide) rfl lf_X9_9 dX9_reads_33 ?_
        refine r_ei I (r_runV X I pk_X7_peek (c7_peek l G _ _) lm_X9_34 (by decide) (cl_7 rfl) rfl rfl rfl hl.1 rfl (Nat.le_of_ble_eq_true rfl) dX9_reads_36 ⟨Nat.le_of_ble_eq_true rfl, Nat.le_of_ble_eq_true rfl⟩ ⟨Nat.le_refl 0, Nat.le_refl 0⟩) (fun H locs I => ?_)
        refine lv_iconst (v := (-1)) X.1 X.2.1 dX9_reads_39 (by decide) ?_
        refine lv_icmp_ne (tgt := 69) X.1 X.2.1 dX9_reads_40 (by decide) (fun c_3 => ?_) (fun c_3 => ?_)
        · skip
          refine lv_aload_n X.1 X.2.1 dX9_reads_69 rfl (lv_at hl 0 rfl) ?_
          refine g9_0 X I (k := 3) (by decide) rfl lf_X9_9 dX9_reads_70 ?_
          refine lv_bipush (v := 59) X.1 X.2.1 dX9_reads_73 (by decide) ?_
          refine r_ei I (r_runV X I pk_X7_takes (c7_takes l G _ _ _) lm_X9_44 (by decide) (cl_7 rfl) rfl rfl rfl hl.1 rfl (Nat.le_of_ble_eq_true rfl) dX9_reads_75 ⟨Nat.le_of_ble_eq_true rfl, Nat.le_of_ble_eq_true rfl⟩ ⟨Nat.le_refl 0, Nat.le_refl 0⟩) (fun H locs I => ?_)
          refine lv_if_ne (tgt := 83) X.1 X.2.1 dX9_reads_78 (by decide) (fun c_4 => ?_) (fun c_4 => ?_)
          · skip
            refine lv_iinc (v := _ + 1) (lv' := [(1, .int _), (0, .ref _)]) X.1 X.2.1 dX9_reads_83 hl (k := 1) rfl rfl (by decide) rfl (fun ls hl => ?_)
            refine lv_goto (tgt := 16) X.1 X.2.1 dX9_reads_86 (by decide) ?_
            exact ih _ _ _ _ _ I (lv_sub hl [1, 0] rfl) (Nat.lt_of_lt_of_le (up_dec c_1) (Nat.le_of_lt_succ hm)) (hE.trans ((if_neg c_1).trans ((if_pos (b2i_y c_2)).trans ((if_neg c_3).trans ((if_pos (b2i_y c_4)).trans rfl)))))
          · skip
            refine lv_iconst (v := 0) X.1 X.2.1 dX9_reads_81 (by decide) ?_
            have h9 := hE.trans ((if_neg c_1).trans ((if_pos (b2i_y c_2)).trans ((if_neg c_3).trans ((if_neg (b2i_n c_4)).trans rfl))))
            exact r_zret X I rfl (e_i (congrArg b2i (congrArg Prod.fst h9)).symm (congrArg Prod.snd h9).symm rfl) dX9_reads_82
        · skip
          refine lv_aload_n X.1 X.2.1 dX9_reads_43 rfl (lv_at hl 0 rfl) ?_
          refine g9_1 X I (k := 3) (by decide) rfl lf_X9_18 dX9_reads_44 ?_
          refine r_ei I (r_runV X I pk_X8_isWhole (c8_isWhole l G (k := 4) ⟨by decide, rfl, rfl, rfl⟩ _ _) lm_X9_38 (by decide) (cl_8 rfl) rfl rfl rfl hl.1 rfl (Nat.le_of_ble_eq_true rfl) dX9_reads_47 ⟨Nat.le_of_ble_eq_true rfl, Nat.le_of_ble_eq_true rfl⟩ ⟨Nat.le_refl 0, Nat.le_refl 0⟩) (fun H locs I => ?_)
          refine lv_if_ne (tgt := 63) X.1 X.2.1 dX9_reads_50 (by decide) (fun c_5 => ?_) (fun c_5 => ?_)
          · skip
            refine lv_iconst (v := 1) X.1 X.2.1 dX9_reads_63 (by decide) ?_
            refine lv_goto (tgt := 68) X.1 X.2.1 dX9_reads_64 (by decide) ?_
            have h9 := hE.trans ((if_neg c_1).trans ((if_pos (b2i_y c_2)).trans ((if_pos c_3).trans ((if_pos (b2i_y c_5)).trans rfl))))
            exact r_zret X I rfl (e_i (congrArg b2i (congrArg Prod.fst h9)).symm (congrArg Prod.snd h9).symm rfl) dX9_reads_68
          · skip
            refine lv_aload_n X.1 X.2.1 dX9_reads_53 rfl (lv_at hl 0 rfl) ?_
            refine g9_0 X I (k := 3) (by decide) rfl lf_X9_9 dX9_reads_54 ?_
            refine r_ei I (r_runV X I pk_X7_failsAtEnd (c7_failsAtEnd l G _ _) lm_X9_41 (by decide) (cl_7 rfl) rfl rfl rfl hl.1 rfl (Nat.le_of_ble_eq_true rfl) dX9_reads_57 ⟨Nat.le_of_ble_eq_true rfl, Nat.le_of_ble_eq_true rfl⟩ ⟨Nat.le_refl 0, Nat.le_refl 0⟩) (fun H locs I => ?_)
            refine lv_if_eq (tgt := 67) X.1 X.2.1 dX9_reads_60 (by decide) (fun c_6 => ?_) (fun c_6 => ?_)
            · skip
              refine lv_iconst (v := 0) X.1 X.2.1 dX9_reads_67 (by decide) ?_
              have h9 := hE.trans ((if_neg c_1).trans ((if_pos (b2i_y c_2)).trans ((if_pos c_3).trans ((if_neg (b2i_n c_5)).trans ((if_neg (b2i_n c_6)).trans rfl)))))
              exact r_zret X I rfl (e_i (congrArg b2i (congrArg Prod.fst h9)).symm (congrArg Prod.snd h9).symm rfl) dX9_reads_68
            · skip
              refine lv_iconst (v := 1) X.1 X.2.1 dX9_reads_63 (by decide) ?_
              refine lv_goto (tgt := 68) X.1 X.2.1 dX9_reads_64 (by decide) ?_
              have h9 := hE.trans ((if_neg c_1).trans ((if_pos (b2i_y c_2)).trans ((if_pos c_3).trans ((if_neg (b2i_n c_5)).trans ((if_pos (b2i_y c_6)).trans rfl)))))
              exact r_zret X I rfl (e_i (congrArg b2i (congrArg Prod.fst h9)).symm (congrArg Prod.snd h9).symm rfl) dX9_reads_68
      · skip
        refine lv_iconst (v := 0) X.1 X.2.1 dX9_reads_30 (by decide) ?_
        have h9 := hE.trans ((if_neg c_1).trans ((if_neg (b2i_n c_2)).trans rfl))
        exact r_zret X I rfl (e_i (congrArg b2i (congrArg Prod.fst h9)).symm (congrArg Prod.snd h9).symm rfl) dX9_reads_31
set_option maxHeartbeats 4000000 in
set_option maxRecDepth 100000 in
theorem c9_reads (l : Launch) (G : GT) (σ : SI) (τ : SL) : Mc l yX9_reads cX9_reads 2 (some .boolean) 8 G [.ref (G.2.1 3)] σ τ (Qi G (Ei (b2i (f9_reads σ).1) (f9_reads σ).2 τ)) := by
  refine m_start (by decide +kernel) (Nat.le_of_ble_eq_true rfl) rfl (fun p e s m args below meth c ls X I hl => ?_)
  have hl : lv_has ls 2 [(0, .ref (G.2.1 3))] := hl
  obtain ⟨E, hE⟩ : ∃ E, E = (f9_reads σ) := ⟨_, rfl⟩
  rw [← hE]
  refine lv_aload_n X.1 X.2.1 dX9_reads_0 rfl (lv_at hl 0 rfl) ?_
  refine g9_0 X I (k := 3) (by decide) rfl lf_X9_9 dX9_reads_1 ?_
  refine r_ev I (r_runV X I pk_X7_rewind (c7_rewind l G _ _) lm_X9_22 (by decide) (cl_7 rfl) rfl rfl rfl hl.1 rfl (Nat.le_of_ble_eq_true rfl) dX9_reads_4 ⟨Nat.le_of_ble_eq_true rfl, Nat.le_of_ble_eq_true rfl⟩ ⟨Nat.le_refl 0, Nat.le_refl 0⟩) (fun H locs I => ?_)
  refine lv_aload_n X.1 X.2.1 dX9_reads_7 rfl (lv_at hl 0 rfl) ?_
  refine g9_1 X I (k := 3) (by decide) rfl lf_X9_18 dX9_reads_8 ?_
  refine r_ev I (r_runV X I pk_X8_clear (c8_clear l G (k := 4) ⟨by decide, rfl, rfl, rfl⟩ _ _) lm_X9_27 (by decide) (cl_8 rfl) rfl rfl rfl hl.1 rfl (Nat.le_of_ble_eq_true rfl) dX9_reads_11 ⟨Nat.le_of_ble_eq_true rfl, Nat.le_of_ble_eq_true rfl⟩ ⟨Nat.le_refl 0, Nat.le_refl 0⟩) (fun H locs I => ?_)
  refine lv_iconst (v := 0) X.1 X.2.1 dX9_reads_14 (by decide) ?_
  refine lv_istore_n (lv' := [(1, .int _), (0, .ref _)]) X.1 X.2.1 dX9_reads_15 rfl hl (by decide) rfl (fun ls hl => ?_)
  exact c9_reads_c16 X _  _ _ _ _ _ _ I (lv_sub hl [1, 0] rfl) (Nat.lt_succ_self _) (hE.trans (rfl))
def f10_forget (σ : SI) : SI := let s0 := sp σ 33 2 (0 : Int32); let s1 := sp s0 33 3 (0 : Int32); s1
theorem w_f10_forget (σ : SI) (a : Nat) (h0 : a ≠ 33) : (f10_forget σ) a = σ a := by
  unfold f10_forget
  (repeat' split) <;> (first | rfl | (simp only [sp_n, su_n, ne_eq, not_false_eq_true, h0]; done) | (simp [sp_n, su_n, ne_eq, not_false_eq_true, h0]; done))
set_option maxHeartbeats 4000000 in
set_option maxRecDepth 100000 in
theorem c10_forget (l : Launch) (G : GT) (σ : SI) (τ : SL) : Mc l yX10_forget cX10_forget 1 none 0 G [.ref (G.2.1 33)] σ τ (Qv G (Ev (f10_forget σ) τ)) := by
  refine m_start (by decide +kernel) (Nat.le_of_ble_eq_true rfl) rfl (fun p e s m args below meth c ls X I hl => ?_)
  have hl : lv_has ls 1 [(0, .ref (G.2.1 33))] := hl
  obtain ⟨E, hE⟩ : ∃ E, E = (f10_forget σ) := ⟨_, rfl⟩
  rw [← hE]
  refine lv_aload_n X.1 X.2.1 dX10_forget_0 rfl (lv_at hl 0 rfl) ?_
  refine lv_iconst (v := 0) X.1 X.2.1 dX10_forget_1 (by decide) ?_
  refine p10_2 X I (k := 33) (by decide) rfl lf_X10_18 dX10_forget_2 (fun H locs I => ?_)
  refine lv_aload_n X.1 X.2.1 dX10_forget_5 rfl (lv_at hl 0 rfl) ?_
  refine lv_iconst (v := 0) X.1 X.2.1 dX10_forget_6 (by decide) ?_
  refine p10_3 X I (k := 33) (by decide) rfl lf_X10_22 dX10_forget_7 (fun H locs I => ?_)
  have h9 := hE
  exact r_vret X I (e_v (h9).symm rfl) dX10_forget_10
def f10_tell (k : Nat) (n : Nat) (σ : SI) (x1 : Int32) (x2 : Int32) (x3 : Int32) (x4 : Int32) : SI := let s0 := (f11_setCell k n σ (x1 * (3 : Int32)) x2); let s1 := (f11_setCell k n s0 ((x1 * (3 : Int32)) + (1 : Int32)) x3); let s2 := (f11_setCell k n s1 ((x1 * (3 : Int32)) + (2 : Int32)) x4); s2
theorem w_f10_tell {k : Nat} {n : Nat} (σ : SI) (x1 : Int32) (x2 : Int32) (x3 : Int32) (x4 : Int32) (a : Nat) (h0 : a ≠ k) : (f10_tell k n σ x1 x2 x3 x4) a = σ a := by
  unfold f10_tell
  (repeat' split) <;> (first | rfl | (simp only [sp_n, su_n, ne_eq, not_false_eq_true, h0, w_f11_setCell]; done) | (simp [sp_n, su_n, ne_eq, not_false_eq_true, h0, w_f11_setCell]; done))
set_option maxHeartbeats 4000000 in
set_option maxRecDepth 100000 in
theorem c10_tell (l : Launch) (G : GT) {k n : Nat} (hk : k < NW) (hd : kd k = 100 + n) (hn : n < 2 ^ 31) (σ : SI) (τ : SL) (x1 : Int32) (x2 : Int32) (x3 : Int32) (x4 : Int32) : Mc l yX10_tell cX10_tell 5 none 1 G [.ref (G.2.1 k), .int x1, .int x2, .int x3, .int x4] σ τ (Qv G (Ev (f10_tell k n σ x1 x2 x3 x4) τ)) := by
  refine m_start (by decide +kernel) (Nat.le_of_ble_eq_true rfl) rfl (fun p e s m args below meth c ls X I hl => ?_)
  have hl : lv_has ls 5 [(0, .ref (G.2.1 k)), (1, .int x1), (2, .int x2), (3, .int x3), (4, .int x4)] := hl
  obtain ⟨E, hE⟩ : ∃ E, E = (f10_tell k n σ x1 x2 x3 x4) := ⟨_, rfl⟩
  rw [← hE]
  refine lv_aload_n X.1 X.2.1 dX10_tell_0 rfl (lv_at hl 0 rfl) ?_
  refine lv_iload_n X.1 X.2.1 dX10_tell_1 rfl (lv_at hl 1 rfl) ?_
  refine lv_iconst (v := 3) X.1 X.2.1 dX10_tell_2 (by decide) ?_
  refine lv_imul X.1 X.2.1 dX10_tell_3 ?_
  refine lv_iload_n X.1 X.2.1 dX10_tell_4 rfl (lv_at hl 2 rfl) ?_
  refine r_ev I (r_runN X I pk_X11_setCell (c11_setCell l G (k := k) (n := n) hk hd hn _ _ _ _) (by decide +kernel) rfl hl.1 rfl (Nat.le_of_ble_eq_true rfl) dX10_tell_5 ⟨Nat.le_of_ble_eq_true rfl, Nat.le_of_ble_eq_true rfl⟩ ⟨Nat.le_refl 0, Nat.le_refl 0⟩) (fun H locs I => ?_)
  refine lv_aload_n X.1 X.2.1 dX10_tell_8 rfl (lv_at hl 0 rfl) ?_
  refine lv_iload_n X.1 X.2.1 dX10_tell_9 rfl (lv_at hl 1 rfl) ?_
  refine lv_iconst (v := 3) X.1 X.2.1 dX10_tell_10 (by decide) ?_
  refine lv_imul X.1 X.2.1 dX10_tell_11 ?_
  refine lv_iconst (v := 1) X.1 X.2.1 dX10_tell_12 (by decide) ?_
  refine lv_iadd X.1 X.2.1 dX10_tell_13 ?_
  refine lv_iload_n X.1 X.2.1 dX10_tell_14 rfl (lv_at hl 3 rfl) ?_
  refine r_ev I (r_runN X I pk_X11_setCell (c11_setCell l G (k := k) (n := n) hk hd hn _ _ _ _) (by decide +kernel) rfl hl.1 rfl (Nat.le_of_ble_eq_true rfl) dX10_tell_15 ⟨Nat.le_of_ble_eq_true rfl, Nat.le_of_ble_eq_true rfl⟩ ⟨Nat.le_refl 0, Nat.le_refl 0⟩) (fun H locs I => ?_)
  refine lv_aload_n X.1 X.2.1 dX10_tell_18 rfl (lv_at hl 0 rfl) ?_
  refine lv_iload_n X.1 X.2.1 dX10_tell_19 rfl (lv_at hl 1 rfl) ?_
  refine lv_iconst (v := 3) X.1 X.2.1 dX10_tell_20 (by decide) ?_
  refine lv_imul X.1 X.2.1 dX10_tell_21 ?_
  refine lv_iconst (v := 2) X.1 X.2.1 dX10_tell_22 (by decide) ?_
  refine lv_iadd X.1 X.2.1 dX10_tell_23 ?_
  refine lv_iload X.1 X.2.1 dX10_tell_24 (lv_at hl 4 rfl) ?_
  refine r_ev I (r_runN X I pk_X11_setCell (c11_setCell l G (k := k) (n := n) hk hd hn _ _ _ _) (by decide +kernel) rfl hl.1 rfl (Nat.le_of_ble_eq_true rfl) dX10_tell_26 ⟨Nat.le_of_ble_eq_true rfl, Nat.le_of_ble_eq_true rfl⟩ ⟨Nat.le_refl 0, Nat.le_refl 0⟩) (fun H locs I => ?_)
  have h9 := hE
  exact r_vret X I (e_v (h9).symm rfl) dX10_tell_29
def f10_tellStood (σ : SI) (x1 : Int32) (x2 : Int32) (x3 : Int32) : Int32 × SI := if (σ 33 2) < (10 : Int32) then (let s0 := (f10_tell 34 30 σ (σ 33 2) x1 x2 x3); let s1 := sp s0 33 2 ((s0 33 2) + (1 : Int32)); (((s0 33 2) + (1 : Int32)), s1)) else ((-1 : Int32), σ)
theorem w_f10_tellStood (σ : SI) (x1 : Int32) (x2 : Int32) (x3 : Int32) (a : Nat) (h0 : a ≠ 33) (h1 : a ≠ 34) : (f10_tellStood σ x1 x2 x3).2 a = σ a := by
  unfold f10_tellStood
  (repeat' split) <;> (first | rfl | (simp only [sp_n, su_n, ne_eq, not_false_eq_true, h0, h1, w_f10_tell]; done) | (simp [sp_n, su_n, ne_eq, not_false_eq_true, h0, h1, w_f10_tell]; done))
set_option maxHeartbeats 4000000 in
set_option maxRecDepth 100000 in
theorem c10_tellStood (l : Launch) (G : GT) (σ : SI) (τ : SL) (x1 : Int32) (x2 : Int32) (x3 : Int32) : Mc l yX10_tellStood cX10_tellStood 4 (some .int) 2 G [.ref (G.2.1 33), .int x1, .int x2, .int x3] σ τ (Qi G (Ei (f10_tellStood σ x1 x2 x3).1 (f10_tellStood σ x1 x2 x3).2 τ)) := by
  refine m_start (by decide +kernel) (Nat.le_of_ble_eq_true rfl) rfl (fun p e s m args below meth c ls X I hl => ?_)
  have hl : lv_has ls 4 [(0, .ref (G.2.1 33)), (1, .int x1), (2, .int x2), (3, .int x3)] := hl
  obtain ⟨E, hE⟩ : ∃ E, E = (f10_tellStood σ x1 x2 x3) := ⟨_, rfl⟩
  rw [← hE]
  refine lv_aload_n X.1 X.2.1 dX10_tellStood_0 rfl (lv_at hl 0 rfl) ?_
  refine g10_2 X I (k := 33) (by decide) rfl lf_X10_18 dX10_tellStood_1 ?_
  refine lv_bipush (v := 10) X.1 X.2.1 dX10_tellStood_4 (by decide) ?_
  refine lv_icmp_lt (tgt := 11) X.1 X.2.1 dX10_tellStood_6 (by decide) (fun c_1 => ?_) (fun c_1 => ?_)
  · skip
    refine lv_aload_n X.1 X.2.1 dX10_tellStood_11 rfl (lv_at hl 0 rfl) ?_
    refine g10_0 X I (k := 33) (by decide) rfl lf_X10_11 dX10_tellStood_12 ?_
    refine lv_aload_n X.1 X.2.1 dX10_tellStood_15 rfl (lv_at hl 0 rfl) ?_
    refine g10_2 X I (k := 33) (by decide) rfl lf_X10_18 dX10_tellStood_16 ?_
    refine lv_iload_n X.1 X.2.1 dX10_tellStood_19 rfl (lv_at hl 1 rfl) ?_
    refine lv_iload_n X.1 X.2.1 dX10_tellStood_20 rfl (lv_at hl 2 rfl) ?_
    refine lv_iload_n X.1 X.2.1 dX10_tellStood_21 rfl (lv_at hl 3 rfl) ?_
    refine r_ev I (r_runS X I pk_X10_tell (c10_tell l G (k := 34) (n := 30) (by decide) rfl (by decide) _ _ _ _ _ _) lm_X10_25 rfl hl.1 rfl (Nat.le_of_ble_eq_true rfl) dX10_tellStood_22 ⟨Nat.le_of_ble_eq_true rfl, Nat.le_of_ble_eq_true rfl⟩ ⟨Nat.le_refl 0, Nat.le_refl 0⟩) (fun H locs I => ?_)
    refine lv_aload_n X.1 X.2.1 dX10_tellStood_25 rfl (lv_at hl 0 rfl) ?_
    refine lv_dup X.1 X.2.1 dX10_tellStood_26 rfl ?_
    refine g10_2 X I (k := 33) (by decide) rfl lf_X10_18 dX10_tellStood_27 ?_
    refine lv_iconst (v := 1) X.1 X.2.1 dX10_tellStood_30 (by decide) ?_
    refine lv_iadd X.1 X.2.1 dX10_tellStood_31 ?_
    refine p10_2 X I (k := 33) (by decide) rfl lf_X10_18 dX10_tellStood_32 (fun H locs I => ?_)
    refine lv_aload_n X.1 X.2.1 dX10_tellStood_35 rfl (lv_at hl 0 rfl) ?_
    refine g10_2 X I (k := 33) (by decide) rfl lf_X10_18 dX10_tellStood_36 ?_
    have h9 := hE.trans ((if_pos c_1).trans rfl)
    exact r_iret X I (e_i (congrArg Prod.fst h9).symm (congrArg Prod.snd h9).symm rfl) dX10_tellStood_39
  · skip
    refine lv_iconst (v := (-1)) X.1 X.2.1 dX10_tellStood_9 (by decide) ?_
    have h9 := hE.trans ((if_neg c_1).trans rfl)
    exact r_iret X I (e_i (congrArg Prod.fst h9).symm (congrArg Prod.snd h9).symm rfl) dX10_tellStood_10
def f10_tellSeen (σ : SI) (x1 : Int32) (x2 : Int32) (x3 : Bool) : Int32 × SI := if (σ 33 3) < (10 : Int32) then (if x3 = true then (let s2 := (f10_tell 35 30 σ (σ 33 3) x1 x2 (1 : Int32)); let s3 := sp s2 33 3 ((s2 33 3) + (1 : Int32)); (((s2 33 3) + (1 : Int32)), s3)) else (let s0 := (f10_tell 35 30 σ (σ 33 3) x1 x2 (0 : Int32)); let s1 := sp s0 33 3 ((s0 33 3) + (1 : Int32)); (((s0 33 3) + (1 : Int32)), s1))) else ((-1 : Int32), σ)
theorem w_f10_tellSeen (σ : SI) (x1 : Int32) (x2 : Int32) (x3 : Bool) (a : Nat) (h0 : a ≠ 33) (h1 : a ≠ 35) : (f10_tellSeen σ x1 x2 x3).2 a = σ a := by
  unfold f10_tellSeen
  (repeat' split) <;> (first | rfl | (simp only [sp_n, su_n, ne_eq, not_false_eq_true, h0, h1, w_f10_tell]; done) | (simp [sp_n, su_n, ne_eq, not_false_eq_true, h0, h1, w_f10_tell]; done))
set_option maxHeartbeats 4000000 in
set_option maxRecDepth 100000 in
theorem c10_tellSeen (l : Launch) (G : GT) (σ : SI) (τ : SL) (x1 : Int32) (x2 : Int32) (x3 : Bool) : Mc l yX10_tellSeen cX10_tellSeen 4 (some .int) 2 G [.ref (G.2.1 33), .int x1, .int x2, .int (b2i x3)] σ τ (Qi G (Ei (f10_tellSeen σ x1 x2 x3).1 (f10_tellSeen σ x1 x2 x3).2 τ)) := by
  refine m_start (by decide +kernel) (Nat.le_of_ble_eq_true rfl) rfl (fun p e s m args below meth c ls X I hl => ?_)
  have hl : lv_has ls 4 [(0, .ref (G.2.1 33)), (1, .int x1), (2, .int x2), (3, .int (b2i x3))] := hl
  obtain ⟨E, hE⟩ : ∃ E, E = (f10_tellSeen σ x1 x2 x3) := ⟨_, rfl⟩
  rw [← hE]
  refine lv_aload_n X.1 X.2.1 dX10_tellSeen_0 rfl (lv_at hl 0 rfl) ?_
  refine g10_3 X I (k := 33) (by decide) rfl lf_X10_22 dX10_tellSeen_1 ?_
  refine lv_bipush (v := 10) X.1 X.2.1 dX10_tellSeen_4 (by decide) ?_
  refine lv_icmp_lt (tgt := 11) X.1 X.2.1 dX10_tellSeen_6 (by decide) (fun c_1 => ?_) (fun c_1 => ?_)
  · skip
    refine lv_aload_n X.1 X.2.1 dX10_tellSeen_11 rfl (lv_at hl 0 rfl) ?_
    refine g10_1 X I (k := 33) (by decide) rfl lf_X10_15 dX10_tellSeen_12 ?_
    refine lv_aload_n X.1 X.2.1 dX10_tellSeen_15 rfl (lv_at hl 0 rfl) ?_
    refine g10_3 X I (k := 33) (by decide) rfl lf_X10_22 dX10_tellSeen_16 ?_
    refine lv_iload_n X.1 X.2.1 dX10_tellSeen_19 rfl (lv_at hl 1 rfl) ?_
    refine lv_iload_n X.1 X.2.1 dX10_tellSeen_20 rfl (lv_at hl 2 rfl) ?_
    refine lv_iload_n X.1 X.2.1 dX10_tellSeen_21 rfl (lv_at hl 3 rfl) ?_
    refine lv_if_eq (tgt := 29) X.1 X.2.1 dX10_tellSeen_22 (by decide) (fun c_2 => ?_) (fun c_2 => ?_)
    · skip
      refine lv_iconst (v := 0) X.1 X.2.1 dX10_tellSeen_29 (by decide) ?_
      refine r_ev I (r_runS X I pk_X10_tell (c10_tell l G (k := 35) (n := 30) (by decide) rfl (by decide) _ _ _ _ _ _) lm_X10_25 rfl hl.1 rfl (Nat.le_of_ble_eq_true rfl) dX10_tellSeen_30 ⟨Nat.le_of_ble_eq_true rfl, Nat.le_of_ble_eq_true rfl⟩ ⟨Nat.le_refl 0, Nat.le_refl 0⟩) (fun H locs I => ?_)
      refine lv_aload_n X.1 X.2.1 dX10_tellSeen_33 rfl (lv_at hl 0 rfl) ?_
      refine lv_dup X.1 X.2.1 dX10_tellSeen_34 rfl ?_
      refine g10_3 X I (k := 33) (by decide) rfl lf_X10_22 dX10_tellSeen_35 ?_
      refine lv_iconst (v := 1) X.1 X.2.1 dX10_tellSeen_38 (by decide) ?_
      refine lv_iadd X.1 X.2.1 dX10_tellSeen_39 ?_
      refine p10_3 X I (k := 33) (by decide) rfl lf_X10_22 dX10_tellSeen_40 (fun H locs I => ?_)
      refine lv_aload_n X.1 X.2.1 dX10_tellSeen_43 rfl (lv_at hl 0 rfl) ?_
      refine g10_3 X I (k := 33) (by decide) rfl lf_X10_22 dX10_tellSeen_44 ?_
      have h9 := hE.trans ((if_pos c_1).trans ((if_neg (b2i_n c_2)).trans rfl))
      exact r_iret X I (e_i (congrArg Prod.fst h9).symm (congrArg Prod.snd h9).symm rfl) dX10_tellSeen_47
    · skip
      refine lv_iconst (v := 1) X.1 X.2.1 dX10_tellSeen_25 (by decide) ?_
      refine lv_goto (tgt := 30) X.1 X.2.1 dX10_tellSeen_26 (by decide) ?_
      refine r_ev I (r_runS X I pk_X10_tell (c10_tell l G (k := 35) (n := 30) (by decide) rfl (by decide) _ _ _ _ _ _) lm_X10_25 rfl hl.1 rfl (Nat.le_of_ble_eq_true rfl) dX10_tellSeen_30 ⟨Nat.le_of_ble_eq_true rfl, Nat.le_of_ble_eq_true rfl⟩ ⟨Nat.le_refl 0, Nat.le_refl 0⟩) (fun H locs I => ?_)
      refine lv_aload_n X.1 X.2.1 dX10_tellSeen_33 rfl (lv_at hl 0 rfl) ?_
      refine lv_dup X.1 X.2.1 dX10_tellSeen_34 rfl ?_
      refine g10_3 X I (k := 33) (by decide) rfl lf_X10_22 dX10_tellSeen_35 ?_
      refine lv_iconst (v := 1) X.1 X.2.1 dX10_tellSeen_38 (by decide) ?_
      refine lv_iadd X.1 X.2.1 dX10_tellSeen_39 ?_
      refine p10_3 X I (k := 33) (by decide) rfl lf_X10_22 dX10_tellSeen_40 (fun H locs I => ?_)
      refine lv_aload_n X.1 X.2.1 dX10_tellSeen_43 rfl (lv_at hl 0 rfl) ?_
      refine g10_3 X I (k := 33) (by decide) rfl lf_X10_22 dX10_tellSeen_44 ?_
      have h9 := hE.trans ((if_pos c_1).trans ((if_pos (b2i_y c_2)).trans rfl))
      exact r_iret X I (e_i (congrArg Prod.fst h9).symm (congrArg Prod.snd h9).symm rfl) dX10_tellSeen_47
  · skip
    refine lv_iconst (v := (-1)) X.1 X.2.1 dX10_tellSeen_9 (by decide) ?_
    have h9 := hE.trans ((if_neg c_1).trans rfl)
    exact r_iret X I (e_i (congrArg Prod.fst h9).symm (congrArg Prod.snd h9).symm rfl) dX10_tellSeen_10
def f10_stoods (σ : SI) : Int32 := (σ 33 2)
set_option maxHeartbeats 4000000 in
set_option maxRecDepth 100000 in
theorem c10_stoods (l : Launch) (G : GT) (σ : SI) (τ : SL) : Mc l yX10_stoods cX10_stoods 1 (some .int) 0 G [.ref (G.2.1 33)] σ τ (Qi G (Ei (f10_stoods σ) σ τ)) := by
  refine m_start (by decide +kernel) (Nat.le_of_ble_eq_true rfl) rfl (fun p e s m args below meth c ls X I hl => ?_)
  have hl : lv_has ls 1 [(0, .ref (G.2.1 33))] := hl
  obtain ⟨E, hE⟩ : ∃ E, E = (f10_stoods σ) := ⟨_, rfl⟩
  rw [← hE]
  refine lv_aload_n X.1 X.2.1 dX10_stoods_0 rfl (lv_at hl 0 rfl) ?_
  refine g10_2 X I (k := 33) (by decide) rfl lf_X10_18 dX10_stoods_1 ?_
  have h9 := hE
  exact r_iret X I (e_i (h9).symm rfl rfl) dX10_stoods_4
def f10_stoodHouse (σ : SI) (x1 : Int32) : Int32 := (f11_cell 34 30 σ (x1 * (3 : Int32)))
set_option maxHeartbeats 4000000 in
set_option maxRecDepth 100000 in
theorem c10_stoodHouse (l : Launch) (G : GT) (σ : SI) (τ : SL) (x1 : Int32) : Mc l yX10_stoodHouse cX10_stoodHouse 2 (some .int) 1 G [.ref (G.2.1 33), .int x1] σ τ (Qi G (Ei (f10_stoodHouse σ x1) σ τ)) := by
  refine m_start (by decide +kernel) (Nat.le_of_ble_eq_true rfl) rfl (fun p e s m args below meth c ls X I hl => ?_)
  have hl : lv_has ls 2 [(0, .ref (G.2.1 33)), (1, .int x1)] := hl
  obtain ⟨E, hE⟩ : ∃ E, E = (f10_stoodHouse σ x1) := ⟨_, rfl⟩
  rw [← hE]
  refine lv_aload_n X.1 X.2.1 dX10_stoodHouse_0 rfl (lv_at hl 0 rfl) ?_
  refine g10_0 X I (k := 33) (by decide) rfl lf_X10_11 dX10_stoodHouse_1 ?_
  refine lv_iload_n X.1 X.2.1 dX10_stoodHouse_4 rfl (lv_at hl 1 rfl) ?_
  refine lv_iconst (v := 3) X.1 X.2.1 dX10_stoodHouse_5 (by decide) ?_
  refine lv_imul X.1 X.2.1 dX10_stoodHouse_6 ?_
  refine r_ei I (r_runN X I pk_X11_cell (c11_cell l G (k := 34) (n := 30) (by decide) rfl (by decide) _ _ _) (by decide +kernel) rfl hl.1 rfl (Nat.le_of_ble_eq_true rfl) dX10_stoodHouse_7 ⟨Nat.le_of_ble_eq_true rfl, Nat.le_of_ble_eq_true rfl⟩ ⟨Nat.le_refl 0, Nat.le_refl 0⟩) (fun H locs I => ?_)
  have h9 := hE
  exact r_iret X I (e_i (h9).symm rfl rfl) dX10_stoodHouse_10
def f10_stoodTime (σ : SI) (x1 : Int32) : Int32 := (f11_cell 34 30 σ ((x1 * (3 : Int32)) + (1 : Int32)))
set_option maxHeartbeats 4000000 in
set_option maxRecDepth 100000 in
theorem c10_stoodTime (l : Launch) (G : GT) (σ : SI) (τ : SL) (x1 : Int32) : Mc l yX10_stoodTime cX10_stoodTime 2 (some .int) 1 G [.ref (G.2.1 33), .int x1] σ τ (Qi G (Ei (f10_stoodTime σ x1) σ τ)) := by
  refine m_start (by decide +kernel) (Nat.le_of_ble_eq_true rfl) rfl (fun p e s m args below meth c ls X I hl => ?_)
  have hl : lv_has ls 2 [(0, .ref (G.2.1 33)), (1, .int x1)] := hl
  obtain ⟨E, hE⟩ : ∃ E, E = (f10_stoodTime σ x1) := ⟨_, rfl⟩
  rw [← hE]
  refine lv_aload_n X.1 X.2.1 dX10_stoodTime_0 rfl (lv_at hl 0 rfl) ?_
  refine g10_0 X I (k := 33) (by decide) rfl lf_X10_11 dX10_stoodTime_1 ?_
  refine lv_iload_n X.1 X.2.1 dX10_stoodTime_4 rfl (lv_at hl 1 rfl) ?_
  refine lv_iconst (v := 3) X.1 X.2.1 dX10_stoodTime_5 (by decide) ?_
  refine lv_imul X.1 X.2.1 dX10_stoodTime_6 ?_
  refine lv_iconst (v := 1) X.1 X.2.1 dX10_stoodTime_7 (by decide) ?_
  refine lv_iadd X.1 X.2.1 dX10_stoodTime_8 ?_
  refine r_ei I (r_runN X I pk_X11_cell (c11_cell l G (k := 34) (n := 30) (by decide) rfl (by decide) _ _ _) (by decide +kernel) rfl hl.1 rfl (Nat.le_of_ble_eq_true rfl) dX10_stoodTime_9 ⟨Nat.le_of_ble_eq_true rfl, Nat.le_of_ble_eq_true rfl⟩ ⟨Nat.le_refl 0, Nat.le_refl 0⟩) (fun H locs I => ?_)
  have h9 := hE
  exact r_iret X I (e_i (h9).symm rfl rfl) dX10_stoodTime_12
def f10_stoodLong (σ : SI) (x1 : Int32) : Int32 := (f11_cell 34 30 σ ((x1 * (3 : Int32)) + (2 : Int32)))
set_option maxHeartbeats 4000000 in
set_option maxRecDepth 100000 in
theorem c10_stoodLong (l : Launch) (G : GT) (σ : SI) (τ : SL) (x1 : Int32) : Mc l yX10_stoodLong cX10_stoodLong 2 (some .int) 1 G [.ref (G.2.1 33), .int x1] σ τ (Qi G (Ei (f10_stoodLong σ x1) σ τ)) := by
  refine m_start (by decide +kernel) (Nat.le_of_ble_eq_true rfl) rfl (fun p e s m args below meth c ls X I hl => ?_)
  have hl : lv_has ls 2 [(0, .ref (G.2.1 33)), (1, .int x1)] := hl
  obtain ⟨E, hE⟩ : ∃ E, E = (f10_stoodLong σ x1) := ⟨_, rfl⟩
  rw [← hE]
  refine lv_aload_n X.1 X.2.1 dX10_stoodLong_0 rfl (lv_at hl 0 rfl) ?_
  refine g10_0 X I (k := 33) (by decide) rfl lf_X10_11 dX10_stoodLong_1 ?_
  refine lv_iload_n X.1 X.2.1 dX10_stoodLong_4 rfl (lv_at hl 1 rfl) ?_
  refine lv_iconst (v := 3) X.1 X.2.1 dX10_stoodLong_5 (by decide) ?_
  refine lv_imul X.1 X.2.1 dX10_stoodLong_6 ?_
  refine lv_iconst (v := 2) X.1 X.2.1 dX10_stoodLong_7 (by decide) ?_
  refine lv_iadd X.1 X.2.1 dX10_stoodLong_8 ?_
  refine r_ei I (r_runN X I pk_X11_cell (c11_cell l G (k := 34) (n := 30) (by decide) rfl (by decide) _ _ _) (by decide +kernel) rfl hl.1 rfl (Nat.le_of_ble_eq_true rfl) dX10_stoodLong_9 ⟨Nat.le_of_ble_eq_true rfl, Nat.le_of_ble_eq_true rfl⟩ ⟨Nat.le_refl 0, Nat.le_refl 0⟩) (fun H locs I => ?_)
  have h9 := hE
  exact r_iret X I (e_i (h9).symm rfl rfl) dX10_stoodLong_12
def f10_seens (σ : SI) : Int32 := (σ 33 3)
set_option maxHeartbeats 4000000 in
set_option maxRecDepth 100000 in
theorem c10_seens (l : Launch) (G : GT) (σ : SI) (τ : SL) : Mc l yX10_seens cX10_seens 1 (some .int) 0 G [.ref (G.2.1 33)] σ τ (Qi G (Ei (f10_seens σ) σ τ)) := by
  refine m_start (by decide +kernel) (Nat.le_of_ble_eq_true rfl) rfl (fun p e s m args below meth c ls X I hl => ?_)
  have hl : lv_has ls 1 [(0, .ref (G.2.1 33))] := hl
  obtain ⟨E, hE⟩ : ∃ E, E = (f10_seens σ) := ⟨_, rfl⟩
  rw [← hE]
  refine lv_aload_n X.1 X.2.1 dX10_seens_0 rfl (lv_at hl 0 rfl) ?_
  refine g10_3 X I (k := 33) (by decide) rfl lf_X10_22 dX10_seens_1 ?_
  have h9 := hE
  exact r_iret X I (e_i (h9).symm rfl rfl) dX10_seens_4
def f10_seenPlace (σ : SI) (x1 : Int32) : Int32 := (f11_cell 35 30 σ (x1 * (3 : Int32)))
set_option maxHeartbeats 4000000 in
set_option maxRecDepth 100000 in
theorem c10_seenPlace (l : Launch) (G : GT) (σ : SI) (τ : SL) (x1 : Int32) : Mc l yX10_seenPlace cX10_seenPlace 2 (some .int) 1 G [.ref (G.2.1 33), .int x1] σ τ (Qi G (Ei (f10_seenPlace σ x1) σ τ)) := by
  refine m_start (by decide +kernel) (Nat.le_of_ble_eq_true rfl) rfl (fun p e s m args below meth c ls X I hl => ?_)
  have hl : lv_has ls 2 [(0, .ref (G.2.1 33)), (1, .int x1)] := hl
  obtain ⟨E, hE⟩ : ∃ E, E = (f10_seenPlace σ x1) := ⟨_, rfl⟩
  rw [← hE]
  refine lv_aload_n X.1 X.2.1 dX10_seenPlace_0 rfl (lv_at hl 0 rfl) ?_
  refine g10_1 X I (k := 33) (by decide) rfl lf_X10_15 dX10_seenPlace_1 ?_
  refine lv_iload_n X.1 X.2.1 dX10_seenPlace_4 rfl (lv_at hl 1 rfl) ?_
  refine lv_iconst (v := 3) X.1 X.2.1 dX10_seenPlace_5 (by decide) ?_
  refine lv_imul X.1 X.2.1 dX10_seenPlace_6 ?_
  refine r_ei I (r_runN X I pk_X11_cell (c11_cell l G (k := 35) (n := 30) (by decide) rfl (by decide) _ _ _) (by decide +kernel) rfl hl.1 rfl (Nat.le_of_ble_eq_true rfl) dX10_seenPlace_7 ⟨Nat.le_of_ble_eq_true rfl, Nat.le_of_ble_eq_true rfl⟩ ⟨Nat.le_refl 0, Nat.le_refl 0⟩) (fun H locs I => ?_)
  have h9 := hE
  exact r_iret X I (e_i (h9).symm rfl rfl) dX10_seenPlace_10
def f10_seenHouse (σ : SI) (x1 : Int32) : Int32 := (f11_cell 35 30 σ ((x1 * (3 : Int32)) + (1 : Int32)))
set_option maxHeartbeats 4000000 in
set_option maxRecDepth 100000 in
theorem c10_seenHouse (l : Launch) (G : GT) (σ : SI) (τ : SL) (x1 : Int32) : Mc l yX10_seenHouse cX10_seenHouse 2 (some .int) 1 G [.ref (G.2.1 33), .int x1] σ τ (Qi G (Ei (f10_seenHouse σ x1) σ τ)) := by
  refine m_start (by decide +kernel) (Nat.le_of_ble_eq_true rfl) rfl (fun p e s m args below meth c ls X I hl => ?_)
  have hl : lv_has ls 2 [(0, .ref (G.2.1 33)), (1, .int x1)] := hl
  obtain ⟨E, hE⟩ : ∃ E, E = (f10_seenHouse σ x1) := ⟨_, rfl⟩
  rw [← hE]
  refine lv_aload_n X.1 X.2.1 dX10_seenHouse_0 rfl (lv_at hl 0 rfl) ?_
  refine g10_1 X I (k := 33) (by decide) rfl lf_X10_15 dX10_seenHouse_1 ?_
  refine lv_iload_n X.1 X.2.1 dX10_seenHouse_4 rfl (lv_at hl 1 rfl) ?_
  refine lv_iconst (v := 3) X.1 X.2.1 dX10_seenHouse_5 (by decide) ?_
  refine lv_imul X.1 X.2.1 dX10_seenHouse_6 ?_
  refine lv_iconst (v := 1) X.1 X.2.1 dX10_seenHouse_7 (by decide) ?_
  refine lv_iadd X.1 X.2.1 dX10_seenHouse_8 ?_
  refine r_ei I (r_runN X I pk_X11_cell (c11_cell l G (k := 35) (n := 30) (by decide) rfl (by decide) _ _ _) (by decide +kernel) rfl hl.1 rfl (Nat.le_of_ble_eq_true rfl) dX10_seenHouse_9 ⟨Nat.le_of_ble_eq_true rfl, Nat.le_of_ble_eq_true rfl⟩ ⟨Nat.le_refl 0, Nat.le_refl 0⟩) (fun H locs I => ?_)
  have h9 := hE
  exact r_iret X I (e_i (h9).symm rfl rfl) dX10_seenHouse_12
def f10_seenIs (σ : SI) (x1 : Int32) : Bool := if (f11_cell 35 30 σ ((x1 * (3 : Int32)) + (2 : Int32))) = (1 : Int32) then true else false
set_option maxHeartbeats 4000000 in
set_option maxRecDepth 100000 in
theorem c10_seenIs (l : Launch) (G : GT) (σ : SI) (τ : SL) (x1 : Int32) : Mc l yX10_seenIs cX10_seenIs 2 (some .boolean) 1 G [.ref (G.2.1 33), .int x1] σ τ (Qi G (Ei (b2i (f10_seenIs σ x1)) σ τ)) := by
  refine m_start (by decide +kernel) (Nat.le_of_ble_eq_true rfl) rfl (fun p e s m args below meth c ls X I hl => ?_)
  have hl : lv_has ls 2 [(0, .ref (G.2.1 33)), (1, .int x1)] := hl
  obtain ⟨E, hE⟩ : ∃ E, E = (f10_seenIs σ x1) := ⟨_, rfl⟩
  rw [← hE]
  refine lv_aload_n X.1 X.2.1 dX10_seenIs_0 rfl (lv_at hl 0 rfl) ?_
  refine g10_1 X I (k := 33) (by decide) rfl lf_X10_15 dX10_seenIs_1 ?_
  refine lv_iload_n X.1 X.2.1 dX10_seenIs_4 rfl (lv_at hl 1 rfl) ?_
  refine lv_iconst (v := 3) X.1 X.2.1 dX10_seenIs_5 (by decide) ?_
  refine lv_imul X.1 X.2.1 dX10_seenIs_6 ?_
  refine lv_iconst (v := 2) X.1 X.2.1 dX10_seenIs_7 (by decide) ?_
  refine lv_iadd X.1 X.2.1 dX10_seenIs_8 ?_
  refine r_ei I (r_runN X I pk_X11_cell (c11_cell l G (k := 35) (n := 30) (by decide) rfl (by decide) _ _ _) (by decide +kernel) rfl hl.1 rfl (Nat.le_of_ble_eq_true rfl) dX10_seenIs_9 ⟨Nat.le_of_ble_eq_true rfl, Nat.le_of_ble_eq_true rfl⟩ ⟨Nat.le_refl 0, Nat.le_refl 0⟩) (fun H locs I => ?_)
  refine lv_iconst (v := 1) X.1 X.2.1 dX10_seenIs_12 (by decide) ?_
  refine lv_icmp_ne (tgt := 20) X.1 X.2.1 dX10_seenIs_13 (by decide) (fun c_1 => ?_) (fun c_1 => ?_)
  · skip
    refine lv_iconst (v := 0) X.1 X.2.1 dX10_seenIs_20 (by decide) ?_
    have h9 := hE.trans ((if_neg c_1).trans rfl)
    exact r_zret X I rfl (e_i (congrArg b2i (h9)).symm rfl rfl) dX10_seenIs_21
  · skip
    refine lv_iconst (v := 1) X.1 X.2.1 dX10_seenIs_16 (by decide) ?_
    refine lv_goto (tgt := 21) X.1 X.2.1 dX10_seenIs_17 (by decide) ?_
    have h9 := hE.trans ((if_pos c_1).trans rfl)
    exact r_zret X I rfl (e_i (congrArg b2i (h9)).symm rfl rfl) dX10_seenIs_21
def f11_signsIn_c5 (x0 : Int32) : Nat → Int32 → Int32 → Int32
  | 0, _, _ => 0
  | fu + 1, v1, v2 => if v2 < (0 : Int32) then v1 else (if (((Int32.toUInt32 x0 >>> (Int32.toUInt32 v2 &&& Int32.toUInt32 31)).toInt32) &&& (255 : Int32)) = (0 : Int32) then (f11_signsIn_c5 x0 fu v1 (v2 + (-8))) else (f11_signsIn_c5 x0 fu (v1 + 1) (v2 + (-8))))
def f11_signsIn (x0 : Int32) : Int32 := (f11_signsIn_c5 x0 ((Int32.toInt (24 : Int32) + 8).toNat + 1) (0 : Int32) (24 : Int32))
set_option maxHeartbeats 4000000 in
set_option maxRecDepth 100000 in
theorem c11_signsIn_c5 {l : Launch} {p : Program} {e : Env} {s : State} {m : MethodId} {args : Array Value} {below : List Frame} {meth : Method} {c : Code} {G : GT} (X : CX p s m args meth c cX11_signsIn RX11 3 (some .int) G) {E : Int32} (σ : SI) (τ : SL) (x0 : Int32) : ∀ (fu : Nat) (v1 : Int32) (v2 : Int32) (H : Heap) (locs : List Loc) (ls : Array Slot), IX G s H locs σ τ → lv_has ls 3 [(0, .int x0), (1, .int v1), (2, .int v2)] → (Int32.toInt v2 + 8).toNat < fu → E = (f11_signsIn_c5 x0 fu v1 v2) → W p l e (rmN 0) s m args below meth c H locs 0 0 (MQ below ((Qi G (Ei E σ τ)) s.heap.size) args s 0 0 (AW G s.heap.size)) (F0 m 5 ls []) := by
  intro fu
  induction fu with
  | zero =>
    intro v1 v2 H locs ls I hl  hm hE
    exact absurd hm (Nat.not_lt_zero _)
  | succ fu ih =>
    intro v1 v2 H locs ls I hl  hm hE
    refine lv_iload_n X.1 X.2.1 dX11_signsIn_5 rfl (lv_at hl 2 rfl) ?_
    refine lv_if_lt (tgt := 28) X.1 X.2.1 dX11_signsIn_6 (by decide) (fun c_1 => ?_) (fun c_1 => ?_)
    · skip
      refine lv_iload_n X.1 X.2.1 dX11_signsIn_28 rfl (lv_at hl 1 rfl) ?_
      have h9 := hE.trans ((if_pos c_1).trans rfl)
      exact r_iret X I (e_i (h9).symm rfl rfl) dX11_signsIn_29
    · skip
      refine lv_iload_n X.1 X.2.1 dX11_signsIn_9 rfl (lv_at hl 0 rfl) ?_
      refine lv_iload_n X.1 X.2.1 dX11_signsIn_10 rfl (lv_at hl 2 rfl) ?_
      refine lv_iushr X.1 X.2.1 dX11_signsIn_11 rfl ?_
      refine lv_sipush (v := 255) X.1 X.2.1 dX11_signsIn_12 (by decide) ?_
      refine lv_iand X.1 X.2.1 dX11_signsIn_15 ?_
      refine lv_if_eq (tgt := 22) X.1 X.2.1 dX11_signsIn_16 (by decide) (fun c_2 => ?_) (fun c_2 => ?_)
      · skip
        refine lv_iinc (v := _ + (-8)) (lv' := [(2, .int _), (0, .int _), (1, .int _)]) X.1 X.2.1 dX11_signsIn_22 hl (k := 2) rfl rfl (by decide) rfl (fun ls hl => ?_)
        refine lv_goto (tgt := 5) X.1 X.2.1 dX11_signsIn_25 (by decide) ?_
        exact ih _ _ _ _ _ I (lv_sub hl [1, 2, 0] rfl) (Nat.lt_of_lt_of_le (dn_dec8 c_1) (Nat.le_of_lt_succ hm)) (hE.trans ((if_neg c_1).trans ((if_pos c_2).trans rfl)))
      · skip
        refine lv_iinc (v := _ + 1) (lv' := [(1, .int _), (0, .int _), (2, .int _)]) X.1 X.2.1 dX11_signsIn_19 hl (k := 1) rfl rfl (by decide) rfl (fun ls hl => ?_)
        refine lv_iinc (v := _ + (-8)) (lv' := [(2, .int _), (1, .int _), (0, .int _)]) X.1 X.2.1 dX11_signsIn_22 hl (k := 2) rfl rfl (by decide) rfl (fun ls hl => ?_)
        refine lv_goto (tgt := 5) X.1 X.2.1 dX11_signsIn_25 (by decide) ?_
        exact ih _ _ _ _ _ I (lv_sub hl [2, 1, 0] rfl) (Nat.lt_of_lt_of_le (dn_dec8 c_1) (Nat.le_of_lt_succ hm)) (hE.trans ((if_neg c_1).trans ((if_neg c_2).trans rfl)))
set_option maxHeartbeats 4000000 in
set_option maxRecDepth 100000 in
theorem c11_signsIn (l : Launch) (G : GT) (σ : SI) (τ : SL) (x0 : Int32) : Mc l yX11_signsIn cX11_signsIn 3 (some .int) 0 G [.int x0] σ τ (Qi G (Ei (f11_signsIn x0) σ τ)) := by
  refine m_start (by decide +kernel) (Nat.le_of_ble_eq_true rfl) rfl (fun p e s m args below meth c ls X I hl => ?_)
  have hl : lv_has ls 3 [(0, .int x0)] := hl
  obtain ⟨E, hE⟩ : ∃ E, E = (f11_signsIn x0) := ⟨_, rfl⟩
  rw [← hE]
  refine lv_iconst (v := 0) X.1 X.2.1 dX11_signsIn_0 (by decide) ?_
  refine lv_istore_n (lv' := [(1, .int _), (0, .int _)]) X.1 X.2.1 dX11_signsIn_1 rfl hl (by decide) rfl (fun ls hl => ?_)
  refine lv_bipush (v := 24) X.1 X.2.1 dX11_signsIn_2 (by decide) ?_
  refine lv_istore_n (lv' := [(2, .int _), (1, .int _), (0, .int _)]) X.1 X.2.1 dX11_signsIn_4 rfl hl (by decide) rfl (fun ls hl => ?_)
  exact c11_signsIn_c5 X _ _ _ _ _ _ _ _ _ I (lv_sub hl [2, 1, 0] rfl) (Nat.lt_succ_self _) (hE.trans (rfl))
def f11_feed (σ : SI) (x1 : Int32) (x2 : Int32) (x3 : Int32) (x4 : Int32) (x5 : Int32) : Int32 × SI := if (((((f11_signsIn x1) + (f11_signsIn x2)) + (f11_signsIn x3)) + (f11_signsIn x4)) + (f11_signsIn x5)) ≤ ((240 : Int32) - (f7_size σ)) then (let s0 := (f7_append σ x1); let s1 := (f7_append s0 x2); let s2 := (f7_append s1 x3); let s3 := (f7_append s2 x4); let s4 := (f7_append s3 x5); ((f7_size s4), s4)) else ((-1 : Int32), σ)
theorem w_f11_feed (σ : SI) (x1 : Int32) (x2 : Int32) (x3 : Int32) (x4 : Int32) (x5 : Int32) (a : Nat) (h0 : a ≠ 1) (h1 : a ≠ 2) : (f11_feed σ x1 x2 x3 x4 x5).2 a = σ a := by
  unfold f11_feed
  (repeat' split) <;> (first | rfl | (simp only [sp_n, su_n, ne_eq, not_false_eq_true, h0, h1, w_f7_append]; done) | (simp [sp_n, su_n, ne_eq, not_false_eq_true, h0, h1, w_f7_append]; done))
set_option maxHeartbeats 4000000 in
set_option maxRecDepth 100000 in
theorem c11_feed (l : Launch) (G : GT) (σ : SI) (τ : SL) (x1 : Int32) (x2 : Int32) (x3 : Int32) (x4 : Int32) (x5 : Int32) : Mc l yX11_feed cX11_feed 7 (some .int) 1 G [.ref (G.2.1 0), .int x1, .int x2, .int x3, .int x4, .int x5] σ τ (Qi G (Ei (f11_feed σ x1 x2 x3 x4 x5).1 (f11_feed σ x1 x2 x3 x4 x5).2 τ)) := by
  refine m_start (by decide +kernel) (Nat.le_of_ble_eq_true rfl) rfl (fun p e s m args below meth c ls X I hl => ?_)
  have hl : lv_has ls 7 [(0, .ref (G.2.1 0)), (1, .int x1), (2, .int x2), (3, .int x3), (4, .int x4), (5, .int x5)] := hl
  obtain ⟨E, hE⟩ : ∃ E, E = (f11_feed σ x1 x2 x3 x4 x5) := ⟨_, rfl⟩
  rw [← hE]
  refine lv_iload_n X.1 X.2.1 dX11_feed_0 rfl (lv_at hl 1 rfl) ?_
  refine r_ei I (r_runS X I pk_X11_signsIn (c11_signsIn l G _ _ _) lm_X11_100 rfl hl.1 rfl (Nat.le_of_ble_eq_true rfl) dX11_feed_1 ⟨Nat.le_of_ble_eq_true rfl, Nat.le_of_ble_eq_true rfl⟩ ⟨Nat.le_refl 0, Nat.le_refl 0⟩) (fun H locs I => ?_)
  refine lv_iload_n X.1 X.2.1 dX11_feed_4 rfl (lv_at hl 2 rfl) ?_
  refine r_ei I (r_runS X I pk_X11_signsIn (c11_signsIn l G _ _ _) lm_X11_100 rfl hl.1 rfl (Nat.le_of_ble_eq_true rfl) dX11_feed_5 ⟨Nat.le_of_ble_eq_true rfl, Nat.le_of_ble_eq_true rfl⟩ ⟨Nat.le_refl 0, Nat.le_refl 0⟩) (fun H locs I => ?_)
  refine lv_iadd X.1 X.2.1 dX11_feed_8 ?_
  refine lv_iload_n X.1 X.2.1 dX11_feed_9 rfl (lv_at hl 3 rfl) ?_
  refine r_ei I (r_runS X I pk_X11_signsIn (c11_signsIn l G _ _ _) lm_X11_100 rfl hl.1 rfl (Nat.le_of_ble_eq_true rfl) dX11_feed_10 ⟨Nat.le_of_ble_eq_true rfl, Nat.le_of_ble_eq_true rfl⟩ ⟨Nat.le_refl 0, Nat.le_refl 0⟩) (fun H locs I => ?_)
  refine lv_iadd X.1 X.2.1 dX11_feed_13 ?_
  refine lv_iload X.1 X.2.1 dX11_feed_14 (lv_at hl 4 rfl) ?_
  refine r_ei I (r_runS X I pk_X11_signsIn (c11_signsIn l G _ _ _) lm_X11_100 rfl hl.1 rfl (Nat.le_of_ble_eq_true rfl) dX11_feed_16 ⟨Nat.le_of_ble_eq_true rfl, Nat.le_of_ble_eq_true rfl⟩ ⟨Nat.le_refl 0, Nat.le_refl 0⟩) (fun H locs I => ?_)
  refine lv_iadd X.1 X.2.1 dX11_feed_19 ?_
  refine lv_iload X.1 X.2.1 dX11_feed_20 (lv_at hl 5 rfl) ?_
  refine r_ei I (r_runS X I pk_X11_signsIn (c11_signsIn l G _ _ _) lm_X11_100 rfl hl.1 rfl (Nat.le_of_ble_eq_true rfl) dX11_feed_22 ⟨Nat.le_of_ble_eq_true rfl, Nat.le_of_ble_eq_true rfl⟩ ⟨Nat.le_refl 0, Nat.le_refl 0⟩) (fun H locs I => ?_)
  refine lv_iadd X.1 X.2.1 dX11_feed_25 ?_
  refine lv_istore (lv' := [(6, .int _), (0, .ref _), (1, .int _), (2, .int _), (3, .int _), (4, .int _), (5, .int _)]) X.1 X.2.1 dX11_feed_26 hl (by decide) rfl (fun ls hl => ?_)
  refine lv_iload X.1 X.2.1 dX11_feed_28 (lv_at hl 0 rfl) ?_
  refine lv_sipush (v := 240) X.1 X.2.1 dX11_feed_30 (by decide) ?_
  refine lv_aload_n X.1 X.2.1 dX11_feed_33 rfl (lv_at hl 1 rfl) ?_
  refine g11_0 X I (k := 0) (by decide) rfl lf_X11_12 dX11_feed_34 ?_
  refine r_ei I (r_runV X I pk_X7_size (c7_size l G _ _) lm_X11_104 (by decide) (cl_7 rfl) rfl rfl rfl hl.1 rfl (Nat.le_of_ble_eq_true rfl) dX11_feed_37 ⟨Nat.le_of_ble_eq_true rfl, Nat.le_of_ble_eq_true rfl⟩ ⟨Nat.le_refl 0, Nat.le_refl 0⟩) (fun H locs I => ?_)
  refine lv_isub X.1 X.2.1 dX11_feed_40 ?_
  refine lv_icmp_le (tgt := 46) X.1 X.2.1 dX11_feed_41 (by decide) (fun c_1 => ?_) (fun c_1 => ?_)
  · skip
    refine lv_aload_n X.1 X.2.1 dX11_feed_46 rfl (lv_at hl 1 rfl) ?_
    refine g11_0 X I (k := 0) (by decide) rfl lf_X11_12 dX11_feed_47 ?_
    refine lv_iload_n X.1 X.2.1 dX11_feed_50 rfl (lv_at hl 2 rfl) ?_
    refine r_ev I (r_runV X I pk_X7_append (c7_append l G _ _ _) lm_X11_108 (by decide) (cl_7 rfl) rfl rfl rfl hl.1 rfl (Nat.le_of_ble_eq_true rfl) dX11_feed_51 ⟨Nat.le_of_ble_eq_true rfl, Nat.le_of_ble_eq_true rfl⟩ ⟨Nat.le_refl 0, Nat.le_refl 0⟩) (fun H locs I => ?_)
    refine lv_aload_n X.1 X.2.1 dX11_feed_54 rfl (lv_at hl 1 rfl) ?_
    refine g11_0 X I (k := 0) (by decide) rfl lf_X11_12 dX11_feed_55 ?_
    refine lv_iload_n X.1 X.2.1 dX11_feed_58 rfl (lv_at hl 3 rfl) ?_
    refine r_ev I (r_runV X I pk_X7_append (c7_append l G _ _ _) lm_X11_108 (by decide) (cl_7 rfl) rfl rfl rfl hl.1 rfl (Nat.le_of_ble_eq_true rfl) dX11_feed_59 ⟨Nat.le_of_ble_eq_true rfl, Nat.le_of_ble_eq_true rfl⟩ ⟨Nat.le_refl 0, Nat.le_refl 0⟩) (fun H locs I => ?_)
    refine lv_aload_n X.1 X.2.1 dX11_feed_62 rfl (lv_at hl 1 rfl) ?_
    refine g11_0 X I (k := 0) (by decide) rfl lf_X11_12 dX11_feed_63 ?_
    refine lv_iload_n X.1 X.2.1 dX11_feed_66 rfl (lv_at hl 4 rfl) ?_
    refine r_ev I (r_runV X I pk_X7_append (c7_append l G _ _ _) lm_X11_108 (by decide) (cl_7 rfl) rfl rfl rfl hl.1 rfl (Nat.le_of_ble_eq_true rfl) dX11_feed_67 ⟨Nat.le_of_ble_eq_true rfl, Nat.le_of_ble_eq_true rfl⟩ ⟨Nat.le_refl 0, Nat.le_refl 0⟩) (fun H locs I => ?_)
    refine lv_aload_n X.1 X.2.1 dX11_feed_70 rfl (lv_at hl 1 rfl) ?_
    refine g11_0 X I (k := 0) (by decide) rfl lf_X11_12 dX11_feed_71 ?_
    refine lv_iload X.1 X.2.1 dX11_feed_74 (lv_at hl 5 rfl) ?_
    refine r_ev I (r_runV X I pk_X7_append (c7_append l G _ _ _) lm_X11_108 (by decide) (cl_7 rfl) rfl rfl rfl hl.1 rfl (Nat.le_of_ble_eq_true rfl) dX11_feed_76 ⟨Nat.le_of_ble_eq_true rfl, Nat.le_of_ble_eq_true rfl⟩ ⟨Nat.le_refl 0, Nat.le_refl 0⟩) (fun H locs I => ?_)
    refine lv_aload_n X.1 X.2.1 dX11_feed_79 rfl (lv_at hl 1 rfl) ?_
    refine g11_0 X I (k := 0) (by decide) rfl lf_X11_12 dX11_feed_80 ?_
    refine lv_iload X.1 X.2.1 dX11_feed_83 (lv_at hl 6 rfl) ?_
    refine r_ev I (r_runV X I pk_X7_append (c7_append l G _ _ _) lm_X11_108 (by decide) (cl_7 rfl) rfl rfl rfl hl.1 rfl (Nat.le_of_ble_eq_true rfl) dX11_feed_85 ⟨Nat.le_of_ble_eq_true rfl, Nat.le_of_ble_eq_true rfl⟩ ⟨Nat.le_refl 0, Nat.le_refl 0⟩) (fun H locs I => ?_)
    refine lv_aload_n X.1 X.2.1 dX11_feed_88 rfl (lv_at hl 1 rfl) ?_
    refine g11_0 X I (k := 0) (by decide) rfl lf_X11_12 dX11_feed_89 ?_
    refine r_ei I (r_runV X I pk_X7_size (c7_size l G _ _) lm_X11_104 (by decide) (cl_7 rfl) rfl rfl rfl hl.1 rfl (Nat.le_of_ble_eq_true rfl) dX11_feed_92 ⟨Nat.le_of_ble_eq_true rfl, Nat.le_of_ble_eq_true rfl⟩ ⟨Nat.le_refl 0, Nat.le_refl 0⟩) (fun H locs I => ?_)
    have h9 := hE.trans ((if_pos c_1).trans rfl)
    exact r_iret X I (e_i (congrArg Prod.fst h9).symm (congrArg Prod.snd h9).symm rfl) dX11_feed_95
  · skip
    refine lv_iconst (v := (-1)) X.1 X.2.1 dX11_feed_44 (by decide) ?_
    have h9 := hE.trans ((if_neg c_1).trans rfl)
    exact r_iret X I (e_i (congrArg Prod.fst h9).symm (congrArg Prod.snd h9).symm rfl) dX11_feed_45
def f11_end (σ : SI) (x1 : Int32) : Bool × SI := if x1 < (0 : Int32) then (false, σ) else (if x1 ≤ (f7_size σ) then (let s0 := (f7_cut σ x1); (true, s0)) else (false, σ))
theorem w_f11_end (σ : SI) (x1 : Int32) (a : Nat) (h0 : a ≠ 1) : (f11_end σ x1).2 a = σ a := by
  unfold f11_end
  (repeat' split) <;> (first | rfl | (simp only [sp_n, su_n, ne_eq, not_false_eq_true, h0, w_f7_cut]; done) | (simp [sp_n, su_n, ne_eq, not_false_eq_true, h0, w_f7_cut]; done))
set_option maxHeartbeats 4000000 in
set_option maxRecDepth 100000 in
theorem c11_end (l : Launch) (G : GT) (σ : SI) (τ : SL) (x1 : Int32) : Mc l yX11_end cX11_end 2 (some .boolean) 1 G [.ref (G.2.1 0), .int x1] σ τ (Qi G (Ei (b2i (f11_end σ x1).1) (f11_end σ x1).2 τ)) := by
  refine m_start (by decide +kernel) (Nat.le_of_ble_eq_true rfl) rfl (fun p e s m args below meth c ls X I hl => ?_)
  have hl : lv_has ls 2 [(0, .ref (G.2.1 0)), (1, .int x1)] := hl
  obtain ⟨E, hE⟩ : ∃ E, E = (f11_end σ x1) := ⟨_, rfl⟩
  rw [← hE]
  refine lv_iload_n X.1 X.2.1 dX11_end_0 rfl (lv_at hl 1 rfl) ?_
  refine lv_if_lt (tgt := 15) X.1 X.2.1 dX11_end_1 (by decide) (fun c_1 => ?_) (fun c_1 => ?_)
  · skip
    refine lv_iconst (v := 0) X.1 X.2.1 dX11_end_15 (by decide) ?_
    have h9 := hE.trans ((if_pos c_1).trans rfl)
    exact r_zret X I rfl (e_i (congrArg b2i (congrArg Prod.fst h9)).symm (congrArg Prod.snd h9).symm rfl) dX11_end_16
  · skip
    refine lv_iload_n X.1 X.2.1 dX11_end_4 rfl (lv_at hl 1 rfl) ?_
    refine lv_aload_n X.1 X.2.1 dX11_end_5 rfl (lv_at hl 0 rfl) ?_
    refine g11_0 X I (k := 0) (by decide) rfl lf_X11_12 dX11_end_6 ?_
    refine r_ei I (r_runV X I pk_X7_size (c7_size l G _ _) lm_X11_104 (by decide) (cl_7 rfl) rfl rfl rfl hl.1 rfl (Nat.le_of_ble_eq_true rfl) dX11_end_9 ⟨Nat.le_of_ble_eq_true rfl, Nat.le_of_ble_eq_true rfl⟩ ⟨Nat.le_refl 0, Nat.le_refl 0⟩) (fun H locs I => ?_)
    refine lv_icmp_le (tgt := 17) X.1 X.2.1 dX11_end_12 (by decide) (fun c_2 => ?_) (fun c_2 => ?_)
    · skip
      refine lv_aload_n X.1 X.2.1 dX11_end_17 rfl (lv_at hl 0 rfl) ?_
      refine g11_0 X I (k := 0) (by decide) rfl lf_X11_12 dX11_end_18 ?_
      refine lv_iload_n X.1 X.2.1 dX11_end_21 rfl (lv_at hl 1 rfl) ?_
      refine r_ev I (r_runV X I pk_X7_cut (c7_cut l G _ _ _) lm_X11_112 (by decide) (cl_7 rfl) rfl rfl rfl hl.1 rfl (Nat.le_of_ble_eq_true rfl) dX11_end_22 ⟨Nat.le_of_ble_eq_true rfl, Nat.le_of_ble_eq_true rfl⟩ ⟨Nat.le_refl 0, Nat.le_refl 0⟩) (fun H locs I => ?_)
      refine lv_iconst (v := 1) X.1 X.2.1 dX11_end_25 (by decide) ?_
      have h9 := hE.trans ((if_neg c_1).trans ((if_pos c_2).trans rfl))
      exact r_zret X I rfl (e_i (congrArg b2i (congrArg Prod.fst h9)).symm (congrArg Prod.snd h9).symm rfl) dX11_end_26
    · skip
      refine lv_iconst (v := 0) X.1 X.2.1 dX11_end_15 (by decide) ?_
      have h9 := hE.trans ((if_neg c_1).trans ((if_neg c_2).trans rfl))
      exact r_zret X I rfl (e_i (congrArg b2i (congrArg Prod.fst h9)).symm (congrArg Prod.snd h9).symm rfl) dX11_end_16
def f11_isRead (σ : SI) (x1 : Int32) : Bool × SI := if x1 = (0 : Int32) then (let r1 := (f9_reads σ); (r1.1, r1.2)) else (let r0 := (f3_reads σ); (r0.1, r0.2))
theorem w_f11_isRead (σ : SI) (x1 : Int32) (a : Nat) (h0 : a ≠ 1) (h1 : a ≠ 5) (h2 : a ≠ 6) (h3 : a ≠ 8) (h4 : a ≠ 9) : (f11_isRead σ x1).2 a = σ a := by
  unfold f11_isRead
  (repeat' split) <;> (first | rfl | (simp only [sp_n, su_n, ne_eq, not_false_eq_true, h0, h1, h2, h3, h4, w_f3_reads, w_f9_reads]; done) | (simp [sp_n, su_n, ne_eq, not_false_eq_true, h0, h1, h2, h3, h4, w_f3_reads, w_f9_reads]; done))
set_option maxHeartbeats 4000000 in
set_option maxRecDepth 100000 in
theorem c11_isRead (l : Launch) (G : GT) (σ : SI) (τ : SL) (x1 : Int32) : Mc l yX11_isRead cX11_isRead 2 (some .boolean) 67 G [.ref (G.2.1 0), .int x1] σ τ (Qi G (Ei (b2i (f11_isRead σ x1).1) (f11_isRead σ x1).2 τ)) := by
  refine m_start (by decide +kernel) (Nat.le_of_ble_eq_true rfl) rfl (fun p e s m args below meth c ls X I hl => ?_)
  have hl : lv_has ls 2 [(0, .ref (G.2.1 0)), (1, .int x1)] := hl
  obtain ⟨E, hE⟩ : ∃ E, E = (f11_isRead σ x1) := ⟨_, rfl⟩
  rw [← hE]
  refine lv_iload_n X.1 X.2.1 dX11_isRead_0 rfl (lv_at hl 1 rfl) ?_
  refine lv_if_ne (tgt := 14) X.1 X.2.1 dX11_isRead_1 (by decide) (fun c_1 => ?_) (fun c_1 => ?_)
  · skip
    refine lv_aload_n X.1 X.2.1 dX11_isRead_14 rfl (lv_at hl 0 rfl) ?_
    refine g11_2 X I (k := 0) (by decide) rfl lf_X11_28 dX11_isRead_15 ?_
    refine r_ei I (r_runV X I pk_X3_reads (c3_reads l G _ _) lm_X11_140 (by decide) (cl_3 rfl) rfl rfl rfl hl.1 rfl (Nat.le_of_ble_eq_true rfl) dX11_isRead_18 ⟨Nat.le_of_ble_eq_true rfl, Nat.le_of_ble_eq_true rfl⟩ ⟨Nat.le_refl 0, Nat.le_refl 0⟩) (fun H locs I => ?_)
    have h9 := hE.trans ((if_neg c_1).trans rfl)
    exact r_zret X I (b2i_nar _) (e_i (congrArg b2i (congrArg Prod.fst h9)).symm (congrArg Prod.snd h9).symm rfl) dX11_isRead_21
  · skip
    refine lv_aload_n X.1 X.2.1 dX11_isRead_4 rfl (lv_at hl 0 rfl) ?_
    refine g11_1 X I (k := 0) (by decide) rfl lf_X11_21 dX11_isRead_5 ?_
    refine r_ei I (r_runV X I pk_X9_reads (c9_reads l G _ _) lm_X11_136 (by decide) (cl_9 rfl) rfl rfl rfl hl.1 rfl (Nat.le_of_ble_eq_true rfl) dX11_isRead_8 ⟨Nat.le_of_ble_eq_true rfl, Nat.le_of_ble_eq_true rfl⟩ ⟨Nat.le_refl 0, Nat.le_refl 0⟩) (fun H locs I => ?_)
    refine lv_goto (tgt := 21) X.1 X.2.1 dX11_isRead_11 (by decide) ?_
    have h9 := hE.trans ((if_pos c_1).trans rfl)
    exact r_zret X I (b2i_nar _) (e_i (congrArg b2i (congrArg Prod.fst h9)).symm (congrArg Prod.snd h9).symm rfl) dX11_isRead_21
def f11_fault (σ : SI) (x1 : Int32) : Int32 × SI := if x1 = (0 : Int32) then (let r0 := (f11_isRead σ x1); if r0.1 = true then ((-1 : Int32), r0.2) else ((f7_wrongAt r0.2), r0.2)) else (if x1 = (1 : Int32) then (let r1 := (f11_isRead σ x1); if r1.1 = true then ((-1 : Int32), r1.2) else ((f7_wrongAt r1.2), r1.2)) else ((-2 : Int32), σ))
theorem w_f11_fault (σ : SI) (x1 : Int32) (a : Nat) (h0 : a ≠ 1) (h1 : a ≠ 5) (h2 : a ≠ 6) (h3 : a ≠ 8) (h4 : a ≠ 9) : (f11_fault σ x1).2 a = σ a := by
  unfold f11_fault
  (repeat' split) <;> (first | rfl | (simp only [sp_n, su_n, ne_eq, not_false_eq_true, h0, h1, h2, h3, h4, w_f11_isRead]; done) | (simp [sp_n, su_n, ne_eq, not_false_eq_true, h0, h1, h2, h3, h4, w_f11_isRead]; done))
set_option maxHeartbeats 4000000 in
set_option maxRecDepth 100000 in
theorem c11_fault (l : Launch) (G : GT) (σ : SI) (τ : SL) (x1 : Int32) : Mc l yX11_fault cX11_fault 2 (some .int) 68 G [.ref (G.2.1 0), .int x1] σ τ (Qi G (Ei (f11_fault σ x1).1 (f11_fault σ x1).2 τ)) := by
  refine m_start (by decide +kernel) (Nat.le_of_ble_eq_true rfl) rfl (fun p e s m args below meth c ls X I hl => ?_)
  have hl : lv_has ls 2 [(0, .ref (G.2.1 0)), (1, .int x1)] := hl
  obtain ⟨E, hE⟩ : ∃ E, E = (f11_fault σ x1) := ⟨_, rfl⟩
  rw [← hE]
  refine lv_iload_n X.1 X.2.1 dX11_fault_0 rfl (lv_at hl 1 rfl) ?_
  refine lv_if_eq (tgt := 12) X.1 X.2.1 dX11_fault_1 (by decide) (fun c_1 => ?_) (fun c_1 => ?_)
  · skip
    refine lv_aload_n X.1 X.2.1 dX11_fault_12 rfl (lv_at hl 0 rfl) ?_
    refine lv_iload_n X.1 X.2.1 dX11_fault_13 rfl (lv_at hl 1 rfl) ?_
    refine r_ei I (r_runV X I pk_X11_isRead (c11_isRead l G _ _ _) lm_X11_115 (by decide) (cl_11 rfl) rfl rfl rfl hl.1 rfl (Nat.le_of_ble_eq_true rfl) dX11_fault_14 ⟨Nat.le_of_ble_eq_true rfl, Nat.le_of_ble_eq_true rfl⟩ ⟨Nat.le_refl 0, Nat.le_refl 0⟩) (fun H locs I => ?_)
    refine lv_if_eq (tgt := 24) X.1 X.2.1 dX11_fault_17 (by decide) (fun c_2 => ?_) (fun c_2 => ?_)
    · skip
      refine lv_aload_n X.1 X.2.1 dX11_fault_24 rfl (lv_at hl 0 rfl) ?_
      refine g11_0 X I (k := 0) (by decide) rfl lf_X11_12 dX11_fault_25 ?_
      refine r_ei I (r_runV X I pk_X7_wrongAt (c7_wrongAt l G _ _) lm_X11_119 (by decide) (cl_7 rfl) rfl rfl rfl hl.1 rfl (Nat.le_of_ble_eq_true rfl) dX11_fault_28 ⟨Nat.le_of_ble_eq_true rfl, Nat.le_of_ble_eq_true rfl⟩ ⟨Nat.le_refl 0, Nat.le_refl 0⟩) (fun H locs I => ?_)
      have h9 := hE.trans ((if_pos c_1).trans ((if_neg (b2i_n c_2)).trans rfl))
      exact r_iret X I (e_i (congrArg Prod.fst h9).symm (congrArg Prod.snd h9).symm rfl) dX11_fault_31
    · skip
      refine lv_iconst (v := (-1)) X.1 X.2.1 dX11_fault_20 (by decide) ?_
      refine lv_goto (tgt := 31) X.1 X.2.1 dX11_fault_21 (by decide) ?_
      have h9 := hE.trans ((if_pos c_1).trans ((if_pos (b2i_y c_2)).trans rfl))
      exact r_iret X I (e_i (congrArg Prod.fst h9).symm (congrArg Prod.snd h9).symm rfl) dX11_fault_31
  · skip
    refine lv_iload_n X.1 X.2.1 dX11_fault_4 rfl (lv_at hl 1 rfl) ?_
    refine lv_iconst (v := 1) X.1 X.2.1 dX11_fault_5 (by decide) ?_
    refine lv_icmp_eq (tgt := 12) X.1 X.2.1 dX11_fault_6 (by decide) (fun c_3 => ?_) (fun c_3 => ?_)
    · skip
      refine lv_aload_n X.1 X.2.1 dX11_fault_12 rfl (lv_at hl 0 rfl) ?_
      refine lv_iload_n X.1 X.2.1 dX11_fault_13 rfl (lv_at hl 1 rfl) ?_
      refine r_ei I (r_runV X I pk_X11_isRead (c11_isRead l G _ _ _) lm_X11_115 (by decide) (cl_11 rfl) rfl rfl rfl hl.1 rfl (Nat.le_of_ble_eq_true rfl) dX11_fault_14 ⟨Nat.le_of_ble_eq_true rfl, Nat.le_of_ble_eq_true rfl⟩ ⟨Nat.le_refl 0, Nat.le_refl 0⟩) (fun H locs I => ?_)
      refine lv_if_eq (tgt := 24) X.1 X.2.1 dX11_fault_17 (by decide) (fun c_4 => ?_) (fun c_4 => ?_)
      · skip
        refine lv_aload_n X.1 X.2.1 dX11_fault_24 rfl (lv_at hl 0 rfl) ?_
        refine g11_0 X I (k := 0) (by decide) rfl lf_X11_12 dX11_fault_25 ?_
        refine r_ei I (r_runV X I pk_X7_wrongAt (c7_wrongAt l G _ _) lm_X11_119 (by decide) (cl_7 rfl) rfl rfl rfl hl.1 rfl (Nat.le_of_ble_eq_true rfl) dX11_fault_28 ⟨Nat.le_of_ble_eq_true rfl, Nat.le_of_ble_eq_true rfl⟩ ⟨Nat.le_refl 0, Nat.le_refl 0⟩) (fun H locs I => ?_)
        have h9 := hE.trans ((if_neg c_1).trans ((if_pos c_3).trans ((if_neg (b2i_n c_4)).trans rfl)))
        exact r_iret X I (e_i (congrArg Prod.fst h9).symm (congrArg Prod.snd h9).symm rfl) dX11_fault_31
      · skip
        refine lv_iconst (v := (-1)) X.1 X.2.1 dX11_fault_20 (by decide) ?_
        refine lv_goto (tgt := 31) X.1 X.2.1 dX11_fault_21 (by decide) ?_
        have h9 := hE.trans ((if_neg c_1).trans ((if_pos c_3).trans ((if_pos (b2i_y c_4)).trans rfl)))
        exact r_iret X I (e_i (congrArg Prod.fst h9).symm (congrArg Prod.snd h9).symm rfl) dX11_fault_31
    · skip
      refine lv_bipush (v := (-2)) X.1 X.2.1 dX11_fault_9 (by decide) ?_
      have h9 := hE.trans ((if_neg c_1).trans ((if_neg c_3).trans rfl))
      exact r_iret X I (e_i (congrArg Prod.fst h9).symm (congrArg Prod.snd h9).symm rfl) dX11_fault_11
def f11_settle (σ : SI) : Int32 × SI := let s0 := (f7_cut σ (0 : Int32)); let s1 := (f8_copy 10 4 s0); let s2 := (f0_begin 24 10 s1); let s3 := (f5_forget s2); let s4 := (f10_forget s3); ((f8_houses 10 s4), s4)
theorem w_f11_settle (σ : SI) (a : Nat) (h0 : a ≠ 1) (h1 : a ≠ 11) (h2 : a ≠ 12) (h3 : a ≠ 24) (h4 : a ≠ 25) (h5 : a ≠ 26) (h6 : a ≠ 33) : (f11_settle σ).2 a = σ a := by
  unfold f11_settle
  (repeat' split) <;> (first | rfl | (simp only [sp_n, su_n, ne_eq, not_false_eq_true, h0, h1, h2, h3, h4, h5, h6, w_f0_begin, w_f10_forget, w_f5_forget, w_f7_cut, w_f8_copy]; done) | (simp [sp_n, su_n, ne_eq, not_false_eq_true, h0, h1, h2, h3, h4, h5, h6, w_f0_begin, w_f10_forget, w_f5_forget, w_f7_cut, w_f8_copy]; done))
set_option maxHeartbeats 4000000 in
set_option maxRecDepth 100000 in
theorem c11_settle (l : Launch) (G : GT) (σ : SI) (τ : SL) : Mc l yX11_settle cX11_settle 1 (some .int) 6 G [.ref (G.2.1 0)] σ τ (Qi G (Ei (f11_settle σ).1 (f11_settle σ).2 τ)) := by
  refine m_start (by decide +kernel) (Nat.le_of_ble_eq_true rfl) rfl (fun p e s m args below meth c ls X I hl => ?_)
  have hl : lv_has ls 1 [(0, .ref (G.2.1 0))] := hl
  obtain ⟨E, hE⟩ : ∃ E, E = (f11_settle σ) := ⟨_, rfl⟩
  rw [← hE]
  refine lv_aload_n X.1 X.2.1 dX11_settle_0 rfl (lv_at hl 0 rfl) ?_
  refine g11_0 X I (k := 0) (by decide) rfl lf_X11_12 dX11_settle_1 ?_
  refine lv_iconst (v := 0) X.1 X.2.1 dX11_settle_4 (by decide) ?_
  refine r_ev I (r_runV X I pk_X7_cut (c7_cut l G _ _ _) lm_X11_112 (by decide) (cl_7 rfl) rfl rfl rfl hl.1 rfl (Nat.le_of_ble_eq_true rfl) dX11_settle_5 ⟨Nat.le_of_ble_eq_true rfl, Nat.le_of_ble_eq_true rfl⟩ ⟨Nat.le_refl 0, Nat.le_refl 0⟩) (fun H locs I => ?_)
  refine lv_aload_n X.1 X.2.1 dX11_settle_8 rfl (lv_at hl 0 rfl) ?_
  refine g11_3 X I (k := 0) (by decide) rfl lf_X11_35 dX11_settle_9 ?_
  refine lv_aload_n X.1 X.2.1 dX11_settle_12 rfl (lv_at hl 0 rfl) ?_
  refine g11_1 X I (k := 0) (by decide) rfl lf_X11_21 dX11_settle_13 ?_
  refine r_eqc I (r_runV X I pk_X9_draft (c9_draft l G _ _) lm_X11_141 (by decide) (cl_9 rfl) rfl rfl rfl hl.1 rfl (Nat.le_of_ble_eq_true rfl) dX11_settle_16 ⟨Nat.le_of_ble_eq_true rfl, Nat.le_of_ble_eq_true rfl⟩ ⟨Nat.le_refl 0, Nat.le_refl 0⟩) rfl (fun H locs I => ?_)
  refine r_ev I (r_runV X I pk_X8_copy (c8_copy l G (k := 10) ⟨by decide, rfl, rfl, rfl⟩ (k1 := 4) ⟨by decide, rfl, rfl, rfl⟩ _ _) lm_X11_144 (by decide) (cl_8 rfl) rfl rfl rfl hl.1 rfl (Nat.le_of_ble_eq_true rfl) dX11_settle_19 ⟨Nat.le_of_ble_eq_true rfl, Nat.le_of_ble_eq_true rfl⟩ ⟨Nat.le_refl 0, Nat.le_refl 0⟩) (fun H locs I => ?_)
  refine lv_aload_n X.1 X.2.1 dX11_settle_22 rfl (lv_at hl 0 rfl) ?_
  refine g11_5 X I (k := 0) (by decide) rfl lf_X11_49 dX11_settle_23 ?_
  refine lv_aload_n X.1 X.2.1 dX11_settle_26 rfl (lv_at hl 0 rfl) ?_
  refine g11_3 X I (k := 0) (by decide) rfl lf_X11_35 dX11_settle_27 ?_
  refine r_ev I (r_runV X I pk_X0_begin (c0_begin l G (k := 24) ⟨by decide, rfl, rfl⟩ (k1 := 10) ⟨by decide, rfl, rfl, rfl⟩ _ _) lm_X11_148 (by decide) (cl_0 rfl) rfl rfl rfl hl.1 rfl (Nat.le_of_ble_eq_true rfl) dX11_settle_30 ⟨Nat.le_of_ble_eq_true rfl, Nat.le_of_ble_eq_true rfl⟩ ⟨Nat.le_refl 0, Nat.le_refl 0⟩) (fun H locs I => ?_)
  refine lv_aload_n X.1 X.2.1 dX11_settle_33 rfl (lv_at hl 0 rfl) ?_
  refine g11_6 X I (k := 0) (by decide) rfl lf_X11_56 dX11_settle_34 ?_
  refine r_ev I (r_runV X I pk_X5_forget (c5_forget l G _ _) lm_X11_151 (by decide) (cl_5 rfl) rfl rfl rfl hl.1 rfl (Nat.le_of_ble_eq_true rfl) dX11_settle_37 ⟨Nat.le_of_ble_eq_true rfl, Nat.le_of_ble_eq_true rfl⟩ ⟨Nat.le_refl 0, Nat.le_refl 0⟩) (fun H locs I => ?_)
  refine lv_aload_n X.1 X.2.1 dX11_settle_40 rfl (lv_at hl 0 rfl) ?_
  refine g11_8 X I (k := 0) (by decide) rfl lf_X11_72 dX11_settle_41 ?_
  refine r_ev I (r_runV X I pk_X10_forget (c10_forget l G _ _) lm_X11_154 (by decide) (cl_10 rfl) rfl rfl rfl hl.1 rfl (Nat.le_of_ble_eq_true rfl) dX11_settle_44 ⟨Nat.le_of_ble_eq_true rfl, Nat.le_of_ble_eq_true rfl⟩ ⟨Nat.le_refl 0, Nat.le_refl 0⟩) (fun H locs I => ?_)
  refine lv_aload_n X.1 X.2.1 dX11_settle_47 rfl (lv_at hl 0 rfl) ?_
  refine g11_3 X I (k := 0) (by decide) rfl lf_X11_35 dX11_settle_48 ?_
  refine r_ei I (r_runV X I pk_X8_houses (c8_houses l G (k := 10) ⟨by decide, rfl, rfl, rfl⟩ _ _) lm_X11_155 (by decide) (cl_8 rfl) rfl rfl rfl hl.1 rfl (Nat.le_of_ble_eq_true rfl) dX11_settle_51 ⟨Nat.le_of_ble_eq_true rfl, Nat.le_of_ble_eq_true rfl⟩ ⟨Nat.le_refl 0, Nat.le_refl 0⟩) (fun H locs I => ?_)
  have h9 := hE
  exact r_iret X I (e_i (congrArg Prod.fst h9).symm (congrArg Prod.snd h9).symm rfl) dX11_settle_54
def f11_text (σ : SI) (x1 : Int32) : Int32 × SI := if x1 = (0 : Int32) then (let r3 := (f11_isRead σ x1); if r3.1 = true then (let r4 := (f11_settle r3.2); (r4.1, r4.2)) else ((-1 : Int32), r3.2)) else (if x1 = (1 : Int32) then (if (4 : Int32) ≤ (f2_number σ) then ((-1 : Int32), σ) else (let r0 := (f11_isRead σ x1); if r0.1 = true then (let s1 := (f7_cut r0.2 (0 : Int32)); let r2 := (f2_add 8 s1); (r2.1, r2.2)) else ((-1 : Int32), r0.2))) else ((-1 : Int32), σ))
theorem w_f11_text (σ : SI) (x1 : Int32) (a : Nat) (h0 : a ≠ 1) (h1 : a ≠ 5) (h2 : a ≠ 6) (h3 : a ≠ 8) (h4 : a ≠ 9) (h5 : a ≠ 11) (h6 : a ≠ 12) (h7 : a ≠ 13) (h8 : a ≠ 24) (h9 : a ≠ 25) (h10 : a ≠ 26) (h11 : a ≠ 33) (h12 : a ≠ (o_1k + 1)) (h13 : a ≠ o_1k) : (f11_text σ x1).2 a = σ a := by
  unfold f11_text
  (repeat' split) <;> (first | rfl | (simp only [sp_n, su_n, ne_eq, not_false_eq_true, h0, h1, h2, h3, h4, h5, h6, h7, h8, h9, h10, h11, h12, h13, w_f11_isRead, w_f11_settle, w_f2_add, w_f7_cut]; done) | (simp [sp_n, su_n, ne_eq, not_false_eq_true, h0, h1, h2, h3, h4, h5, h6, h7, h8, h9, h10, h11, h12, h13, w_f11_isRead, w_f11_settle, w_f2_add, w_f7_cut]; done))
set_option maxHeartbeats 4000000 in
set_option maxRecDepth 100000 in
theorem c11_text (l : Launch) (G : GT) (σ : SI) (τ : SL) (x1 : Int32) : Mc l yX11_text cX11_text 2 (some .int) 68 G [.ref (G.2.1 0), .int x1] σ τ (Qi G (Ei (f11_text σ x1).1 (f11_text σ x1).2 τ)) := by
  refine m_start (by decide +kernel) (Nat.le_of_ble_eq_true rfl) rfl (fun p e s m args below meth c ls X I hl => ?_)
  have hl : lv_has ls 2 [(0, .ref (G.2.1 0)), (1, .int x1)] := hl
  obtain ⟨E, hE⟩ : ∃ E, E = (f11_text σ x1) := ⟨_, rfl⟩
  rw [← hE]
  refine lv_iload_n X.1 X.2.1 dX11_text_0 rfl (lv_at hl 1 rfl) ?_
  refine lv_if_ne (tgt := 21) X.1 X.2.1 dX11_text_1 (by decide) (fun c_1 => ?_) (fun c_1 => ?_)
  · skip
    refine lv_iload_n X.1 X.2.1 dX11_text_21 rfl (lv_at hl 1 rfl) ?_
    refine lv_iconst (v := 1) X.1 X.2.1 dX11_text_22 (by decide) ?_
    refine lv_icmp_ne (tgt := 68) X.1 X.2.1 dX11_text_23 (by decide) (fun c_2 => ?_) (fun c_2 => ?_)
    · skip
      refine lv_iconst (v := (-1)) X.1 X.2.1 dX11_text_68 (by decide) ?_
      have h9 := hE.trans ((if_neg c_1).trans ((if_neg c_2).trans rfl))
      exact r_iret X I (e_i (congrArg Prod.fst h9).symm (congrArg Prod.snd h9).symm rfl) dX11_text_69
    · skip
      refine lv_aload_n X.1 X.2.1 dX11_text_26 rfl (lv_at hl 0 rfl) ?_
      refine g11_4 X I (k := 0) (by decide) rfl lf_X11_42 dX11_text_27 ?_
      refine r_ei I (r_runV X I pk_X2_number (c2_number l G _ _) lm_X11_125 (by decide) (cl_2 rfl) rfl rfl rfl hl.1 rfl (Nat.le_of_ble_eq_true rfl) dX11_text_30 ⟨Nat.le_of_ble_eq_true rfl, Nat.le_of_ble_eq_true rfl⟩ ⟨Nat.le_refl 0, Nat.le_refl 0⟩) (fun H locs I => ?_)
      refine lv_iconst (v := 4) X.1 X.2.1 dX11_text_33 (by decide) ?_
      refine lv_icmp_ge (tgt := 68) X.1 X.2.1 dX11_text_34 (by decide) (fun c_3 => ?_) (fun c_3 => ?_)
      · skip
        refine lv_iconst (v := (-1)) X.1 X.2.1 dX11_text_68 (by decide) ?_
        have h9 := hE.trans ((if_neg c_1).trans ((if_pos c_2).trans ((if_pos c_3).trans rfl)))
        exact r_iret X I (e_i (congrArg Prod.fst h9).symm (congrArg Prod.snd h9).symm rfl) dX11_text_69
      · skip
        refine lv_aload_n X.1 X.2.1 dX11_text_37 rfl (lv_at hl 0 rfl) ?_
        refine lv_iload_n X.1 X.2.1 dX11_text_38 rfl (lv_at hl 1 rfl) ?_
        refine r_ei I (r_runV X I pk_X11_isRead (c11_isRead l G _ _ _) lm_X11_115 (by decide) (cl_11 rfl) rfl rfl rfl hl.1 rfl (Nat.le_of_ble_eq_true rfl) dX11_text_39 ⟨Nat.le_of_ble_eq_true rfl, Nat.le_of_ble_eq_true rfl⟩ ⟨Nat.le_refl 0, Nat.le_refl 0⟩) (fun H locs I => ?_)
        refine lv_if_eq (tgt := 68) X.1 X.2.1 dX11_text_42 (by decide) (fun c_4 => ?_) (fun c_4 => ?_)
        · skip
          refine lv_iconst (v := (-1)) X.1 X.2.1 dX11_text_68 (by decide) ?_
          have h9 := hE.trans ((if_neg c_1).trans ((if_pos c_2).trans ((if_neg c_3).trans ((if_neg (b2i_n c_4)).trans rfl))))
          exact r_iret X I (e_i (congrArg Prod.fst h9).symm (congrArg Prod.snd h9).symm rfl) dX11_text_69
        · skip
          refine lv_aload_n X.1 X.2.1 dX11_text_45 rfl (lv_at hl 0 rfl) ?_
          refine g11_0 X I (k := 0) (by decide) rfl lf_X11_12 dX11_text_46 ?_
          refine lv_iconst (v := 0) X.1 X.2.1 dX11_text_49 (by decide) ?_
          refine r_ev I (r_runV X I pk_X7_cut (c7_cut l G _ _ _) lm_X11_112 (by decide) (cl_7 rfl) rfl rfl rfl hl.1 rfl (Nat.le_of_ble_eq_true rfl) dX11_text_50 ⟨Nat.le_of_ble_eq_true rfl, Nat.le_of_ble_eq_true rfl⟩ ⟨Nat.le_refl 0, Nat.le_refl 0⟩) (fun H locs I => ?_)
          refine lv_aload_n X.1 X.2.1 dX11_text_53 rfl (lv_at hl 0 rfl) ?_
          refine g11_4 X I (k := 0) (by decide) rfl lf_X11_42 dX11_text_54 ?_
          refine lv_aload_n X.1 X.2.1 dX11_text_57 rfl (lv_at hl 0 rfl) ?_
          refine g11_2 X I (k := 0) (by decide) rfl lf_X11_28 dX11_text_58 ?_
          refine r_eqc I (r_runV X I pk_X3_draft (c3_draft l G _ _) lm_X11_128 (by decide) (cl_3 rfl) rfl rfl rfl hl.1 rfl (Nat.le_of_ble_eq_true rfl) dX11_text_61 ⟨Nat.le_of_ble_eq_true rfl, Nat.le_of_ble_eq_true rfl⟩ ⟨Nat.le_refl 0, Nat.le_refl 0⟩) rfl (fun H locs I => ?_)
          refine r_ei I (r_runV X I pk_X2_add (c2_add l G (k1 := 8) ⟨by decide, rfl, rfl⟩ _ _) lm_X11_132 (by decide) (cl_2 rfl) rfl rfl rfl hl.1 rfl (Nat.le_of_ble_eq_true rfl) dX11_text_64 ⟨Nat.le_of_ble_eq_true rfl, Nat.le_of_ble_eq_true rfl⟩ ⟨Nat.le_refl 0, Nat.le_refl 0⟩) (fun H locs I => ?_)
          have h9 := hE.trans ((if_neg c_1).trans ((if_pos c_2).trans ((if_neg c_3).trans ((if_pos (b2i_y c_4)).trans rfl))))
          exact r_iret X I (e_i (congrArg Prod.fst h9).symm (congrArg Prod.snd h9).symm rfl) dX11_text_67
  · skip
    refine lv_aload_n X.1 X.2.1 dX11_text_4 rfl (lv_at hl 0 rfl) ?_
    refine lv_iload_n X.1 X.2.1 dX11_text_5 rfl (lv_at hl 1 rfl) ?_
    refine r_ei I (r_runV X I pk_X11_isRead (c11_isRead l G _ _ _) lm_X11_115 (by decide) (cl_11 rfl) rfl rfl rfl hl.1 rfl (Nat.le_of_ble_eq_true rfl) dX11_text_6 ⟨Nat.le_of_ble_eq_true rfl, Nat.le_of_ble_eq_true rfl⟩ ⟨Nat.le_refl 0, Nat.le_refl 0⟩) (fun H locs I => ?_)
    refine lv_if_eq (tgt := 19) X.1 X.2.1 dX11_text_9 (by decide) (fun c_5 => ?_) (fun c_5 => ?_)
    · skip
      refine lv_iconst (v := (-1)) X.1 X.2.1 dX11_text_19 (by decide) ?_
      have h9 := hE.trans ((if_pos c_1).trans ((if_neg (b2i_n c_5)).trans rfl))
      exact r_iret X I (e_i (congrArg Prod.fst h9).symm (congrArg Prod.snd h9).symm rfl) dX11_text_20
    · skip
      refine lv_aload_n X.1 X.2.1 dX11_text_12 rfl (lv_at hl 0 rfl) ?_
      refine r_ei I (r_runV X I pk_X11_settle (c11_settle l G _ _) lm_X11_122 (by decide) (cl_11 rfl) rfl rfl rfl hl.1 rfl (Nat.le_of_ble_eq_true rfl) dX11_text_13 ⟨Nat.le_of_ble_eq_true rfl, Nat.le_of_ble_eq_true rfl⟩ ⟨Nat.le_refl 0, Nat.le_refl 0⟩) (fun H locs I => ?_)
      refine lv_goto (tgt := 20) X.1 X.2.1 dX11_text_16 (by decide) ?_
      have h9 := hE.trans ((if_pos c_1).trans ((if_pos (b2i_y c_5)).trans rfl))
      exact r_iret X I (e_i (congrArg Prod.fst h9).symm (congrArg Prod.snd h9).symm rfl) dX11_text_20
def f11_rule (σ : SI) (x1 : Int32) : Int32 := if (f8_isTold 10 σ) = true then (if x1 = 0 then (f8_timeThereIs 10 σ) else (if x1 = 1 then (σ 24 1) else (if x1 = 2 then (f8_growth 10 σ) else (if x1 = 3 then (f8_strength 10 σ) else (-1 : Int32))))) else (-1 : Int32)
set_option maxHeartbeats 4000000 in
set_option maxRecDepth 100000 in
theorem c11_rule (l : Launch) (G : GT) (σ : SI) (τ : SL) (x1 : Int32) : Mc l yX11_rule cX11_rule 2 (some .int) 4 G [.ref (G.2.1 0), .int x1] σ τ (Qi G (Ei (f11_rule σ x1) σ τ)) := by
  refine m_start (by decide +kernel) (Nat.le_of_ble_eq_true rfl) rfl (fun p e s m args below meth c ls X I hl => ?_)
  have hl : lv_has ls 2 [(0, .ref (G.2.1 0)), (1, .int x1)] := hl
  obtain ⟨E, hE⟩ : ∃ E, E = (f11_rule σ x1) := ⟨_, rfl⟩
  rw [← hE]
  refine lv_aload_n X.1 X.2.1 dX11_rule_0 rfl (lv_at hl 0 rfl) ?_
  refine g11_3 X I (k := 0) (by decide) rfl lf_X11_35 dX11_rule_1 ?_
  refine r_ei I (r_runV X I pk_X8_isTold (c8_isTold l G (k := 10) ⟨by decide, rfl, rfl, rfl⟩ _ _) lm_X11_158 (by decide) (cl_8 rfl) rfl rfl rfl hl.1 rfl (Nat.le_of_ble_eq_true rfl) dX11_rule_4 ⟨Nat.le_of_ble_eq_true rfl, Nat.le_of_ble_eq_true rfl⟩ ⟨Nat.le_refl 0, Nat.le_refl 0⟩) (fun H locs I => ?_)
  refine lv_if_ne (tgt := 12) X.1 X.2.1 dX11_rule_7 (by decide) (fun c_1 => ?_) (fun c_1 => ?_)
  · skip
    refine lv_iload_n X.1 X.2.1 dX11_rule_12 rfl (lv_at hl 1 rfl) ?_
    rcases Classical.em (x1 = 0) with c_2 | c_2
    · skip
      refine lv_tableIn (off := 31) (tgt := 44) X.1 X.2.1 dX11_rule_13 (by rw [c_2]; decide) (by rw [c_2]; decide) (by rw [c_2]; decide) (by decide) ?_
      refine lv_aload_n X.1 X.2.1 dX11_rule_44 rfl (lv_at hl 0 rfl) ?_
      refine g11_3 X I (k := 0) (by decide) rfl lf_X11_35 dX11_rule_45 ?_
      refine r_ei I (r_runV X I pk_X8_timeThereIs (c8_timeThereIs l G (k := 10) ⟨by decide, rfl, rfl, rfl⟩ _ _) lm_X11_161 (by decide) (cl_8 rfl) rfl rfl rfl hl.1 rfl (Nat.le_of_ble_eq_true rfl) dX11_rule_48 ⟨Nat.le_of_ble_eq_true rfl, Nat.le_of_ble_eq_true rfl⟩ ⟨Nat.le_refl 0, Nat.le_refl 0⟩) (fun H locs I => ?_)
      have h9 := hE.trans ((if_pos (b2i_y c_1)).trans ((if_pos c_2).trans rfl))
      exact r_iret X I (e_i (h9).symm rfl rfl) dX11_rule_51
    rcases Classical.em (x1 = 1) with c_3 | c_3
    · skip
      refine lv_tableIn (off := 39) (tgt := 52) X.1 X.2.1 dX11_rule_13 (by rw [c_3]; decide) (by rw [c_3]; decide) (by rw [c_3]; decide) (by decide) ?_
      refine lv_aload_n X.1 X.2.1 dX11_rule_52 rfl (lv_at hl 0 rfl) ?_
      refine g11_5 X I (k := 0) (by decide) rfl lf_X11_49 dX11_rule_53 ?_
      refine g0_1 X I (k := 24) (by decide) rfl lf_X11_164 dX11_rule_56 ?_
      have h9 := hE.trans ((if_pos (b2i_y c_1)).trans ((if_neg c_2).trans ((if_pos c_3).trans rfl)))
      exact r_iret X I (e_i (h9).symm rfl rfl) dX11_rule_59
    rcases Classical.em (x1 = 2) with c_4 | c_4
    · skip
      refine lv_tableIn (off := 47) (tgt := 60) X.1 X.2.1 dX11_rule_13 (by rw [c_4]; decide) (by rw [c_4]; decide) (by rw [c_4]; decide) (by decide) ?_
      refine lv_aload_n X.1 X.2.1 dX11_rule_60 rfl (lv_at hl 0 rfl) ?_
      refine g11_3 X I (k := 0) (by decide) rfl lf_X11_35 dX11_rule_61 ?_
      refine r_ei I (r_runV X I pk_X8_growth (c8_growth l G (k := 10) ⟨by decide, rfl, rfl, rfl⟩ _ _) lm_X11_167 (by decide) (cl_8 rfl) rfl rfl rfl hl.1 rfl (Nat.le_of_ble_eq_true rfl) dX11_rule_64 ⟨Nat.le_of_ble_eq_true rfl, Nat.le_of_ble_eq_true rfl⟩ ⟨Nat.le_refl 0, Nat.le_refl 0⟩) (fun H locs I => ?_)
      have h9 := hE.trans ((if_pos (b2i_y c_1)).trans ((if_neg c_2).trans ((if_neg c_3).trans ((if_pos c_4).trans rfl))))
      exact r_iret X I (e_i (h9).symm rfl rfl) dX11_rule_67
    rcases Classical.em (x1 = 3) with c_5 | c_5
    · skip
      refine lv_tableIn (off := 55) (tgt := 68) X.1 X.2.1 dX11_rule_13 (by rw [c_5]; decide) (by rw [c_5]; decide) (by rw [c_5]; decide) (by decide) ?_
      refine lv_aload_n X.1 X.2.1 dX11_rule_68 rfl (lv_at hl 0 rfl) ?_
      refine g11_3 X I (k := 0) (by decide) rfl lf_X11_35 dX11_rule_69 ?_
      refine r_ei I (r_runV X I pk_X8_strength (c8_strength l G (k := 10) ⟨by decide, rfl, rfl, rfl⟩ _ _) lm_X11_170 (by decide) (cl_8 rfl) rfl rfl rfl hl.1 rfl (Nat.le_of_ble_eq_true rfl) dX11_rule_72 ⟨Nat.le_of_ble_eq_true rfl, Nat.le_of_ble_eq_true rfl⟩ ⟨Nat.le_refl 0, Nat.le_refl 0⟩) (fun H locs I => ?_)
      have h9 := hE.trans ((if_pos (b2i_y c_1)).trans ((if_neg c_2).trans ((if_neg c_3).trans ((if_neg c_4).trans ((if_pos c_5).trans rfl)))))
      exact r_iret X I (e_i (h9).symm rfl rfl) dX11_rule_75
    refine lv_tableD (L := [0, 1, 2, 3]) (tgt := 76) X.1 X.2.1 dX11_rule_13 (by decide) (List.forall_mem_cons.mpr ⟨c_2, (List.forall_mem_cons.mpr ⟨c_3, (List.forall_mem_cons.mpr ⟨c_4, (List.forall_mem_cons.mpr ⟨c_5, (fun _ h => absurd h List.not_mem_nil)⟩)⟩)⟩)⟩) (by decide) ?_
    refine lv_iconst (v := (-1)) X.1 X.2.1 dX11_rule_76 (by decide) ?_
    have h9 := hE.trans ((if_pos (b2i_y c_1)).trans ((if_neg c_2).trans ((if_neg c_3).trans ((if_neg c_4).trans ((if_neg c_5).trans rfl)))))
    exact r_iret X I (e_i (h9).symm rfl rfl) dX11_rule_77
  · skip
    refine lv_iconst (v := (-1)) X.1 X.2.1 dX11_rule_10 (by decide) ?_
    have h9 := hE.trans ((if_neg (b2i_n c_1)).trans rfl)
    exact r_iret X I (e_i (h9).symm rfl rfl) dX11_rule_11
def f11_bearer (σ : SI) (x1 : Int32) : Int32 := if x1 < (0 : Int32) then (-1 : Int32) else (if (f8_bearers 10 σ) ≤ x1 then (-1 : Int32) else (f8_strengthOf 10 σ x1))
set_option maxHeartbeats 4000000 in
set_option maxRecDepth 100000 in
theorem c11_bearer (l : Launch) (G : GT) (σ : SI) (τ : SL) (x1 : Int32) : Mc l yX11_bearer cX11_bearer 2 (some .int) 3 G [.ref (G.2.1 0), .int x1] σ τ (Qi G (Ei (f11_bearer σ x1) σ τ)) := by
  refine m_start (by decide +kernel) (Nat.le_of_ble_eq_true rfl) rfl (fun p e s m args below meth c ls X I hl => ?_)
  have hl : lv_has ls 2 [(0, .ref (G.2.1 0)), (1, .int x1)] := hl
  obtain ⟨E, hE⟩ : ∃ E, E = (f11_bearer σ x1) := ⟨_, rfl⟩
  rw [← hE]
  refine lv_iload_n X.1 X.2.1 dX11_bearer_0 rfl (lv_at hl 1 rfl) ?_
  refine lv_if_lt (tgt := 26) X.1 X.2.1 dX11_bearer_1 (by decide) (fun c_1 => ?_) (fun c_1 => ?_)
  · skip
    refine lv_iconst (v := (-1)) X.1 X.2.1 dX11_bearer_26 (by decide) ?_
    have h9 := hE.trans ((if_pos c_1).trans rfl)
    exact r_iret X I (e_i (h9).symm rfl rfl) dX11_bearer_27
  · skip
    refine lv_iload_n X.1 X.2.1 dX11_bearer_4 rfl (lv_at hl 1 rfl) ?_
    refine lv_aload_n X.1 X.2.1 dX11_bearer_5 rfl (lv_at hl 0 rfl) ?_
    refine g11_3 X I (k := 0) (by decide) rfl lf_X11_35 dX11_bearer_6 ?_
    refine r_ei I (r_runV X I pk_X8_bearers (c8_bearers l G (k := 10) ⟨by decide, rfl, rfl, rfl⟩ _ _) lm_X11_194 (by decide) (cl_8 rfl) rfl rfl rfl hl.1 rfl (Nat.le_of_ble_eq_true rfl) dX11_bearer_9 ⟨Nat.le_of_ble_eq_true rfl, Nat.le_of_ble_eq_true rfl⟩ ⟨Nat.le_refl 0, Nat.le_refl 0⟩) (fun H locs I => ?_)
    refine lv_icmp_ge (tgt := 26) X.1 X.2.1 dX11_bearer_12 (by decide) (fun c_2 => ?_) (fun c_2 => ?_)
    · skip
      refine lv_iconst (v := (-1)) X.1 X.2.1 dX11_bearer_26 (by decide) ?_
      have h9 := hE.trans ((if_neg c_1).trans ((if_pos c_2).trans rfl))
      exact r_iret X I (e_i (h9).symm rfl rfl) dX11_bearer_27
    · skip
      refine lv_aload_n X.1 X.2.1 dX11_bearer_15 rfl (lv_at hl 0 rfl) ?_
      refine g11_3 X I (k := 0) (by decide) rfl lf_X11_35 dX11_bearer_16 ?_
      refine lv_iload_n X.1 X.2.1 dX11_bearer_19 rfl (lv_at hl 1 rfl) ?_
      refine r_ei I (r_runV X I pk_X8_strengthOf (c8_strengthOf l G (k := 10) ⟨by decide, rfl, rfl, rfl⟩ _ _ _) lm_X11_197 (by decide) (cl_8 rfl) rfl rfl rfl hl.1 rfl (Nat.le_of_ble_eq_true rfl) dX11_bearer_20 ⟨Nat.le_of_ble_eq_true rfl, Nat.le_of_ble_eq_true rfl⟩ ⟨Nat.le_refl 0, Nat.le_refl 0⟩) (fun H locs I => ?_)
      refine lv_goto (tgt := 27) X.1 X.2.1 dX11_bearer_23 (by decide) ?_
      have h9 := hE.trans ((if_neg c_1).trans ((if_neg c_2).trans rfl))
      exact r_iret X I (e_i (h9).symm rfl rfl) dX11_bearer_27
def f11_law (σ : SI) (x1 : Int32) : Bool × SI := let r0 := (f2_choose σ x1); (r0.1, r0.2)
theorem w_f11_law (σ : SI) (x1 : Int32) (a : Nat) (h0 : a ≠ 13) : (f11_law σ x1).2 a = σ a := by
  unfold f11_law
  (repeat' split) <;> (first | rfl | (simp only [sp_n, su_n, ne_eq, not_false_eq_true, h0, w_f2_choose]; done) | (simp [sp_n, su_n, ne_eq, not_false_eq_true, h0, w_f2_choose]; done))
set_option maxHeartbeats 4000000 in
set_option maxRecDepth 100000 in
theorem c11_law (l : Launch) (G : GT) (σ : SI) (τ : SL) (x1 : Int32) : Mc l yX11_law cX11_law 2 (some .boolean) 1 G [.ref (G.2.1 0), .int x1] σ τ (Qi G (Ei (b2i (f11_law σ x1).1) (f11_law σ x1).2 τ)) := by
  refine m_start (by decide +kernel) (Nat.le_of_ble_eq_true rfl) rfl (fun p e s m args below meth c ls X I hl => ?_)
  have hl : lv_has ls 2 [(0, .ref (G.2.1 0)), (1, .int x1)] := hl
  obtain ⟨E, hE⟩ : ∃ E, E = (f11_law σ x1) := ⟨_, rfl⟩
  rw [← hE]
  refine lv_aload_n X.1 X.2.1 dX11_law_0 rfl (lv_at hl 0 rfl) ?_
  refine g11_4 X I (k := 0) (by decide) rfl lf_X11_42 dX11_law_1 ?_
  refine lv_iload_n X.1 X.2.1 dX11_law_4 rfl (lv_at hl 1 rfl) ?_
  refine r_ei I (r_runV X I pk_X2_choose (c2_choose l G _ _ _) lm_X11_200 (by decide) (cl_2 rfl) rfl rfl rfl hl.1 rfl (Nat.le_of_ble_eq_true rfl) dX11_law_5 ⟨Nat.le_of_ble_eq_true rfl, Nat.le_of_ble_eq_true rfl⟩ ⟨Nat.le_refl 0, Nat.le_refl 0⟩) (fun H locs I => ?_)
  have h9 := hE
  exact r_zret X I (b2i_nar _) (e_i (congrArg b2i (congrArg Prod.fst h9)).symm (congrArg Prod.snd h9).symm rfl) dX11_law_8
def f11_stepsTo (σ : SI) (x1 : Int32) : Int32 := (f8_distance 10 σ (σ 24 4) x1)
set_option maxHeartbeats 4000000 in
set_option maxRecDepth 100000 in
theorem c11_stepsTo (l : Launch) (G : GT) (σ : SI) (τ : SL) (x1 : Int32) : Mc l yX11_stepsTo cX11_stepsTo 2 (some .int) 6 G [.ref (G.2.1 0), .int x1] σ τ (Qi G (Ei (f11_stepsTo σ x1) σ τ)) := by
  refine m_start (by decide +kernel) (Nat.le_of_ble_eq_true rfl) rfl (fun p e s m args below meth c ls X I hl => ?_)
  have hl : lv_has ls 2 [(0, .ref (G.2.1 0)), (1, .int x1)] := hl
  obtain ⟨E, hE⟩ : ∃ E, E = (f11_stepsTo σ x1) := ⟨_, rfl⟩
  rw [← hE]
  refine lv_aload_n X.1 X.2.1 dX11_stepsTo_0 rfl (lv_at hl 0 rfl) ?_
  refine g11_3 X I (k := 0) (by decide) rfl lf_X11_35 dX11_stepsTo_1 ?_
  refine lv_aload_n X.1 X.2.1 dX11_stepsTo_4 rfl (lv_at hl 0 rfl) ?_
  refine g11_5 X I (k := 0) (by decide) rfl lf_X11_49 dX11_stepsTo_5 ?_
  refine g0_4 X I (k := 24) (by decide) rfl lf_X11_213 dX11_stepsTo_8 ?_
  refine lv_iload_n X.1 X.2.1 dX11_stepsTo_11 rfl (lv_at hl 1 rfl) ?_
  refine r_ei I (r_runV X I pk_X8_distance (c8_distance l G (k := 10) ⟨by decide, rfl, rfl, rfl⟩ _ _ _ _) lm_X11_206 (by decide) (cl_8 rfl) rfl rfl rfl hl.1 rfl (Nat.le_of_ble_eq_true rfl) dX11_stepsTo_12 ⟨Nat.le_of_ble_eq_true rfl, Nat.le_of_ble_eq_true rfl⟩ ⟨Nat.le_refl 0, Nat.le_refl 0⟩) (fun H locs I => ?_)
  have h9 := hE
  exact r_iret X I (e_i (h9).symm rfl rfl) dX11_stepsTo_15
def f11_steps (σ : SI) (x1 : Int32) (x2 : Int32) : Int32 := if x1 = (-1 : Int32) then (if (f8_isHouse 10 σ x2) = true then (if x1 = (-1 : Int32) then (f11_stepsTo σ x2) else (f8_distance 10 σ x1 x2)) else (-1 : Int32)) else (if (f8_isHouse 10 σ x1) = true then (if (f8_isHouse 10 σ x2) = true then (if x1 = (-1 : Int32) then (f11_stepsTo σ x2) else (f8_distance 10 σ x1 x2)) else (-1 : Int32)) else (-1 : Int32))
set_option maxHeartbeats 4000000 in
set_option maxRecDepth 100000 in
theorem c11_steps (l : Launch) (G : GT) (σ : SI) (τ : SL) (x1 : Int32) (x2 : Int32) : Mc l yX11_steps cX11_steps 3 (some .int) 7 G [.ref (G.2.1 0), .int x1, .int x2] σ τ (Qi G (Ei (f11_steps σ x1 x2) σ τ)) := by
  refine m_start (by decide +kernel) (Nat.le_of_ble_eq_true rfl) rfl (fun p e s m args below meth c ls X I hl => ?_)
  have hl : lv_has ls 3 [(0, .ref (G.2.1 0)), (1, .int x1), (2, .int x2)] := hl
  obtain ⟨E, hE⟩ : ∃ E, E = (f11_steps σ x1 x2) := ⟨_, rfl⟩
  rw [← hE]
  refine lv_iload_n X.1 X.2.1 dX11_steps_0 rfl (lv_at hl 1 rfl) ?_
  refine lv_iconst (v := (-1)) X.1 X.2.1 dX11_steps_1 (by decide) ?_
  refine lv_icmp_eq (tgt := 16) X.1 X.2.1 dX11_steps_2 (by decide) (fun c_1 => ?_) (fun c_1 => ?_)
  · skip
    refine lv_aload_n X.1 X.2.1 dX11_steps_16 rfl (lv_at hl 0 rfl) ?_
    refine g11_3 X I (k := 0) (by decide) rfl lf_X11_35 dX11_steps_17 ?_
    refine lv_iload_n X.1 X.2.1 dX11_steps_20 rfl (lv_at hl 2 rfl) ?_
    refine r_ei I (r_runV X I pk_X8_isHouse (c8_isHouse l G (k := 10) ⟨by decide, rfl, rfl, rfl⟩ _ _ _) lm_X11_173 (by decide) (cl_8 rfl) rfl rfl rfl hl.1 rfl (Nat.le_of_ble_eq_true rfl) dX11_steps_21 ⟨Nat.le_of_ble_eq_true rfl, Nat.le_of_ble_eq_true rfl⟩ ⟨Nat.le_refl 0, Nat.le_refl 0⟩) (fun H locs I => ?_)
    refine lv_if_ne (tgt := 29) X.1 X.2.1 dX11_steps_24 (by decide) (fun c_2 => ?_) (fun c_2 => ?_)
    · skip
      refine lv_iload_n X.1 X.2.1 dX11_steps_29 rfl (lv_at hl 1 rfl) ?_
      refine lv_iconst (v := (-1)) X.1 X.2.1 dX11_steps_30 (by decide) ?_
      refine lv_icmp_ne (tgt := 42) X.1 X.2.1 dX11_steps_31 (by decide) (fun c_3 => ?_) (fun c_3 => ?_)
      · skip
        refine lv_aload_n X.1 X.2.1 dX11_steps_42 rfl (lv_at hl 0 rfl) ?_
        refine g11_3 X I (k := 0) (by decide) rfl lf_X11_35 dX11_steps_43 ?_
        refine lv_iload_n X.1 X.2.1 dX11_steps_46 rfl (lv_at hl 1 rfl) ?_
        refine lv_iload_n X.1 X.2.1 dX11_steps_47 rfl (lv_at hl 2 rfl) ?_
        refine r_ei I (r_runV X I pk_X8_distance (c8_distance l G (k := 10) ⟨by decide, rfl, rfl, rfl⟩ _ _ _ _) lm_X11_206 (by decide) (cl_8 rfl) rfl rfl rfl hl.1 rfl (Nat.le_of_ble_eq_true rfl) dX11_steps_48 ⟨Nat.le_of_ble_eq_true rfl, Nat.le_of_ble_eq_true rfl⟩ ⟨Nat.le_refl 0, Nat.le_refl 0⟩) (fun H locs I => ?_)
        have h9 := hE.trans ((if_pos c_1).trans ((if_pos (b2i_y c_2)).trans ((if_neg c_3).trans rfl)))
        exact r_iret X I (e_i (h9).symm rfl rfl) dX11_steps_51
      · skip
        refine lv_aload_n X.1 X.2.1 dX11_steps_34 rfl (lv_at hl 0 rfl) ?_
        refine lv_iload_n X.1 X.2.1 dX11_steps_35 rfl (lv_at hl 2 rfl) ?_
        refine r_ei I (r_runV X I pk_X11_stepsTo (c11_stepsTo l G _ _ _) lm_X11_203 (by decide) (cl_11 rfl) rfl rfl rfl hl.1 rfl (Nat.le_of_ble_eq_true rfl) dX11_steps_36 ⟨Nat.le_of_ble_eq_true rfl, Nat.le_of_ble_eq_true rfl⟩ ⟨Nat.le_refl 0, Nat.le_refl 0⟩) (fun H locs I => ?_)
        refine lv_goto (tgt := 51) X.1 X.2.1 dX11_steps_39 (by decide) ?_
        have h9 := hE.trans ((if_pos c_1).trans ((if_pos (b2i_y c_2)).trans ((if_pos c_3).trans rfl)))
        exact r_iret X I (e_i (h9).symm rfl rfl) dX11_steps_51
    · skip
      refine lv_iconst (v := (-1)) X.1 X.2.1 dX11_steps_27 (by decide) ?_
      have h9 := hE.trans ((if_pos c_1).trans ((if_neg (b2i_n c_2)).trans rfl))
      exact r_iret X I (e_i (h9).symm rfl rfl) dX11_steps_28
  · skip
    refine lv_aload_n X.1 X.2.1 dX11_steps_5 rfl (lv_at hl 0 rfl) ?_
    refine g11_3 X I (k := 0) (by decide) rfl lf_X11_35 dX11_steps_6 ?_
    refine lv_iload_n X.1 X.2.1 dX11_steps_9 rfl (lv_at hl 1 rfl) ?_
    refine r_ei I (r_runV X I pk_X8_isHouse (c8_isHouse l G (k := 10) ⟨by decide, rfl, rfl, rfl⟩ _ _ _) lm_X11_173 (by decide) (cl_8 rfl) rfl rfl rfl hl.1 rfl (Nat.le_of_ble_eq_true rfl) dX11_steps_10 ⟨Nat.le_of_ble_eq_true rfl, Nat.le_of_ble_eq_true rfl⟩ ⟨Nat.le_refl 0, Nat.le_refl 0⟩) (fun H locs I => ?_)
    refine lv_if_eq (tgt := 27) X.1 X.2.1 dX11_steps_13 (by decide) (fun c_4 => ?_) (fun c_4 => ?_)
    · skip
      refine lv_iconst (v := (-1)) X.1 X.2.1 dX11_steps_27 (by decide) ?_
      have h9 := hE.trans ((if_neg c_1).trans ((if_neg (b2i_n c_4)).trans rfl))
      exact r_iret X I (e_i (h9).symm rfl rfl) dX11_steps_28
    · skip
      refine lv_aload_n X.1 X.2.1 dX11_steps_16 rfl (lv_at hl 0 rfl) ?_
      refine g11_3 X I (k := 0) (by decide) rfl lf_X11_35 dX11_steps_17 ?_
      refine lv_iload_n X.1 X.2.1 dX11_steps_20 rfl (lv_at hl 2 rfl) ?_
      refine r_ei I (r_runV X I pk_X8_isHouse (c8_isHouse l G (k := 10) ⟨by decide, rfl, rfl, rfl⟩ _ _ _) lm_X11_173 (by decide) (cl_8 rfl) rfl rfl rfl hl.1 rfl (Nat.le_of_ble_eq_true rfl) dX11_steps_21 ⟨Nat.le_of_ble_eq_true rfl, Nat.le_of_ble_eq_true rfl⟩ ⟨Nat.le_refl 0, Nat.le_refl 0⟩) (fun H locs I => ?_)
      refine lv_if_ne (tgt := 29) X.1 X.2.1 dX11_steps_24 (by decide) (fun c_5 => ?_) (fun c_5 => ?_)
      · skip
        refine lv_iload_n X.1 X.2.1 dX11_steps_29 rfl (lv_at hl 1 rfl) ?_
        refine lv_iconst (v := (-1)) X.1 X.2.1 dX11_steps_30 (by decide) ?_
        refine lv_icmp_ne (tgt := 42) X.1 X.2.1 dX11_steps_31 (by decide) (fun c_6 => ?_) (fun c_6 => ?_)
        · skip
          refine lv_aload_n X.1 X.2.1 dX11_steps_42 rfl (lv_at hl 0 rfl) ?_
          refine g11_3 X I (k := 0) (by decide) rfl lf_X11_35 dX11_steps_43 ?_
          refine lv_iload_n X.1 X.2.1 dX11_steps_46 rfl (lv_at hl 1 rfl) ?_
          refine lv_iload_n X.1 X.2.1 dX11_steps_47 rfl (lv_at hl 2 rfl) ?_
          refine r_ei I (r_runV X I pk_X8_distance (c8_distance l G (k := 10) ⟨by decide, rfl, rfl, rfl⟩ _ _ _ _) lm_X11_206 (by decide) (cl_8 rfl) rfl rfl rfl hl.1 rfl (Nat.le_of_ble_eq_true rfl) dX11_steps_48 ⟨Nat.le_of_ble_eq_true rfl, Nat.le_of_ble_eq_true rfl⟩ ⟨Nat.le_refl 0, Nat.le_refl 0⟩) (fun H locs I => ?_)
          have h9 := hE.trans ((if_neg c_1).trans ((if_pos (b2i_y c_4)).trans ((if_pos (b2i_y c_5)).trans ((if_neg c_6).trans rfl))))
          exact r_iret X I (e_i (h9).symm rfl rfl) dX11_steps_51
        · skip
          refine lv_aload_n X.1 X.2.1 dX11_steps_34 rfl (lv_at hl 0 rfl) ?_
          refine lv_iload_n X.1 X.2.1 dX11_steps_35 rfl (lv_at hl 2 rfl) ?_
          refine r_ei I (r_runV X I pk_X11_stepsTo (c11_stepsTo l G _ _ _) lm_X11_203 (by decide) (cl_11 rfl) rfl rfl rfl hl.1 rfl (Nat.le_of_ble_eq_true rfl) dX11_steps_36 ⟨Nat.le_of_ble_eq_true rfl, Nat.le_of_ble_eq_true rfl⟩ ⟨Nat.le_refl 0, Nat.le_refl 0⟩) (fun H locs I => ?_)
          refine lv_goto (tgt := 51) X.1 X.2.1 dX11_steps_39 (by decide) ?_
          have h9 := hE.trans ((if_neg c_1).trans ((if_pos (b2i_y c_4)).trans ((if_pos (b2i_y c_5)).trans ((if_pos c_6).trans rfl))))
          exact r_iret X I (e_i (h9).symm rfl rfl) dX11_steps_51
      · skip
        refine lv_iconst (v := (-1)) X.1 X.2.1 dX11_steps_27 (by decide) ?_
        have h9 := hE.trans ((if_neg c_1).trans ((if_pos (b2i_y c_4)).trans ((if_neg (b2i_n c_5)).trans rfl)))
        exact r_iret X I (e_i (h9).symm rfl rfl) dX11_steps_28
def f11_standsNow (σ : SI) (x1 : Int32) (x2 : Int32) : Int32 × SI := let r0 := (f2_standing σ x2 (f8_isThankful 10 σ x1) ((σ 24 2) + (f11_stepsTo σ x1)) (f0_doors 24 σ) (f11_stepsTo σ x1) (σ 24 6)); (r0.1, r0.2)
theorem w_f11_standsNow (σ : SI) (x1 : Int32) (x2 : Int32) (a : Nat) (h0 : a ≠ 13) (h1 : a ≠ 15) : (f11_standsNow σ x1 x2).2 a = σ a := by
  unfold f11_standsNow
  (repeat' split) <;> (first | rfl | (simp only [sp_n, su_n, ne_eq, not_false_eq_true, h0, h1, w_f2_standing]; done) | (simp [sp_n, su_n, ne_eq, not_false_eq_true, h0, h1, w_f2_standing]; done))
set_option maxHeartbeats 4000000 in
set_option maxRecDepth 100000 in
theorem c11_standsNow (l : Launch) (G : GT) (σ : SI) (τ : SL) (x1 : Int32) (x2 : Int32) : Mc l yX11_standsNow cX11_standsNow 4 (some .int) 7 G [.ref (G.2.1 0), .int x1, .int x2] σ τ (Qi G (Ei (f11_standsNow σ x1 x2).1 (f11_standsNow σ x1 x2).2 τ)) := by
  refine m_start (by decide +kernel) (Nat.le_of_ble_eq_true rfl) rfl (fun p e s m args below meth c ls X I hl => ?_)
  have hl : lv_has ls 4 [(0, .ref (G.2.1 0)), (1, .int x1), (2, .int x2)] := hl
  obtain ⟨E, hE⟩ : ∃ E, E = (f11_standsNow σ x1 x2) := ⟨_, rfl⟩
  rw [← hE]
  refine lv_aload_n X.1 X.2.1 dX11_standsNow_0 rfl (lv_at hl 0 rfl) ?_
  refine lv_iload_n X.1 X.2.1 dX11_standsNow_1 rfl (lv_at hl 1 rfl) ?_
  refine r_ei I (r_runV X I pk_X11_stepsTo (c11_stepsTo l G _ _ _) lm_X11_203 (by decide) (cl_11 rfl) rfl rfl rfl hl.1 rfl (Nat.le_of_ble_eq_true rfl) dX11_standsNow_2 ⟨Nat.le_of_ble_eq_true rfl, Nat.le_of_ble_eq_true rfl⟩ ⟨Nat.le_refl 0, Nat.le_refl 0⟩) (fun H locs I => ?_)
  refine lv_istore_n (lv' := [(3, .int _), (0, .ref _), (1, .int _), (2, .int _)]) X.1 X.2.1 dX11_standsNow_5 rfl hl (by decide) rfl (fun ls hl => ?_)
  refine lv_aload_n X.1 X.2.1 dX11_standsNow_6 rfl (lv_at hl 1 rfl) ?_
  refine g11_4 X I (k := 0) (by decide) rfl lf_X11_42 dX11_standsNow_7 ?_
  refine lv_iload_n X.1 X.2.1 dX11_standsNow_10 rfl (lv_at hl 3 rfl) ?_
  refine lv_aload_n X.1 X.2.1 dX11_standsNow_11 rfl (lv_at hl 1 rfl) ?_
  refine g11_3 X I (k := 0) (by decide) rfl lf_X11_35 dX11_standsNow_12 ?_
  refine lv_iload_n X.1 X.2.1 dX11_standsNow_15 rfl (lv_at hl 2 rfl) ?_
  refine r_ei I (r_runV X I pk_X8_isThankful (c8_isThankful l G (k := 10) ⟨by decide, rfl, rfl, rfl⟩ _ _ _) lm_X11_188 (by decide) (cl_8 rfl) rfl rfl rfl hl.1 rfl (Nat.le_of_ble_eq_true rfl) dX11_standsNow_16 ⟨Nat.le_of_ble_eq_true rfl, Nat.le_of_ble_eq_true rfl⟩ ⟨Nat.le_refl 0, Nat.le_refl 0⟩) (fun H locs I => ?_)
  refine lv_aload_n X.1 X.2.1 dX11_standsNow_19 rfl (lv_at hl 1 rfl) ?_
  refine g11_5 X I (k := 0) (by decide) rfl lf_X11_49 dX11_standsNow_20 ?_
  refine g0_2 X I (k := 24) (by decide) rfl lf_X11_216 dX11_standsNow_23 ?_
  refine lv_iload_n X.1 X.2.1 dX11_standsNow_26 rfl (lv_at hl 0 rfl) ?_
  refine lv_iadd X.1 X.2.1 dX11_standsNow_27 ?_
  refine lv_aload_n X.1 X.2.1 dX11_standsNow_28 rfl (lv_at hl 1 rfl) ?_
  refine g11_5 X I (k := 0) (by decide) rfl lf_X11_49 dX11_standsNow_29 ?_
  refine r_ei I (r_runV X I pk_X0_doors (c0_doors l G (k := 24) ⟨by decide, rfl, rfl⟩ _ _) lm_X11_219 (by decide) (cl_0 rfl) rfl rfl rfl hl.1 rfl (Nat.le_of_ble_eq_true rfl) dX11_standsNow_32 ⟨Nat.le_of_ble_eq_true rfl, Nat.le_of_ble_eq_true rfl⟩ ⟨Nat.le_refl 0, Nat.le_refl 0⟩) (fun H locs I => ?_)
  refine lv_iload_n X.1 X.2.1 dX11_standsNow_35 rfl (lv_at hl 0 rfl) ?_
  refine lv_aload_n X.1 X.2.1 dX11_standsNow_36 rfl (lv_at hl 1 rfl) ?_
  refine g11_5 X I (k := 0) (by decide) rfl lf_X11_49 dX11_standsNow_37 ?_
  refine g0_6 X I (k := 24) (by decide) rfl lf_X11_222 dX11_standsNow_40 ?_
  refine r_ei I (r_runV X I pk_X2_standing (c2_standing l G _ _ _ _ _ _ _ _) lm_X11_225 (by decide) (cl_2 rfl) rfl rfl rfl hl.1 rfl (Nat.le_of_ble_eq_true rfl) dX11_standsNow_43 ⟨Nat.le_of_ble_eq_true rfl, Nat.le_of_ble_eq_true rfl⟩ ⟨Nat.le_refl 0, Nat.le_refl 0⟩) (fun H locs I => ?_)
  have h9 := hE
  exact r_iret X I (e_i (congrArg Prod.fst h9).symm (congrArg Prod.snd h9).symm rfl) dX11_standsNow_46
def f11_stands (σ : SI) (x1 : Int32) : Int32 × SI := if (f8_isHouse 10 σ x1) = true then (let r0 := (f11_standsNow σ x1 (f0_grievanceOf 24 σ x1)); (r0.1, r0.2)) else ((-1 : Int32), σ)
theorem w_f11_stands (σ : SI) (x1 : Int32) (a : Nat) (h0 : a ≠ 13) (h1 : a ≠ 15) : (f11_stands σ x1).2 a = σ a := by
  unfold f11_stands
  (repeat' split) <;> (first | rfl | (simp only [sp_n, su_n, ne_eq, not_false_eq_true, h0, h1, w_f11_standsNow]; done) | (simp [sp_n, su_n, ne_eq, not_false_eq_true, h0, h1, w_f11_standsNow]; done))
set_option maxHeartbeats 4000000 in
set_option maxRecDepth 100000 in
theorem c11_stands (l : Launch) (G : GT) (σ : SI) (τ : SL) (x1 : Int32) : Mc l yX11_stands cX11_stands 2 (some .int) 8 G [.ref (G.2.1 0), .int x1] σ τ (Qi G (Ei (f11_stands σ x1).1 (f11_stands σ x1).2 τ)) := by
  refine m_start (by decide +kernel) (Nat.le_of_ble_eq_true rfl) rfl (fun p e s m args below meth c ls X I hl => ?_)
  have hl : lv_has ls 2 [(0, .ref (G.2.1 0)), (1, .int x1)] := hl
  obtain ⟨E, hE⟩ : ∃ E, E = (f11_stands σ x1) := ⟨_, rfl⟩
  rw [← hE]
  refine lv_aload_n X.1 X.2.1 dX11_stands_0 rfl (lv_at hl 0 rfl) ?_
  refine g11_3 X I (k := 0) (by decide) rfl lf_X11_35 dX11_stands_1 ?_
  refine lv_iload_n X.1 X.2.1 dX11_stands_4 rfl (lv_at hl 1 rfl) ?_
  refine r_ei I (r_runV X I pk_X8_isHouse (c8_isHouse l G (k := 10) ⟨by decide, rfl, rfl, rfl⟩ _ _ _) lm_X11_173 (by decide) (cl_8 rfl) rfl rfl rfl hl.1 rfl (Nat.le_of_ble_eq_true rfl) dX11_stands_5 ⟨Nat.le_of_ble_eq_true rfl, Nat.le_of_ble_eq_true rfl⟩ ⟨Nat.le_refl 0, Nat.le_refl 0⟩) (fun H locs I => ?_)
  refine lv_if_eq (tgt := 27) X.1 X.2.1 dX11_stands_8 (by decide) (fun c_1 => ?_) (fun c_1 => ?_)
  · skip
    refine lv_iconst (v := (-1)) X.1 X.2.1 dX11_stands_27 (by decide) ?_
    have h9 := hE.trans ((if_neg (b2i_n c_1)).trans rfl)
    exact r_iret X I (e_i (congrArg Prod.fst h9).symm (congrArg Prod.snd h9).symm rfl) dX11_stands_28
  · skip
    refine lv_aload_n X.1 X.2.1 dX11_stands_11 rfl (lv_at hl 0 rfl) ?_
    refine lv_iload_n X.1 X.2.1 dX11_stands_12 rfl (lv_at hl 1 rfl) ?_
    refine lv_aload_n X.1 X.2.1 dX11_stands_13 rfl (lv_at hl 0 rfl) ?_
    refine g11_5 X I (k := 0) (by decide) rfl lf_X11_49 dX11_stands_14 ?_
    refine lv_iload_n X.1 X.2.1 dX11_stands_17 rfl (lv_at hl 1 rfl) ?_
    refine r_ei I (r_runV X I pk_X0_grievanceOf (c0_grievanceOf l G (k := 24) ⟨by decide, rfl, rfl⟩ _ _ _) lm_X11_185 (by decide) (cl_0 rfl) rfl rfl rfl hl.1 rfl (Nat.le_of_ble_eq_true rfl) dX11_stands_18 ⟨Nat.le_of_ble_eq_true rfl, Nat.le_of_ble_eq_true rfl⟩ ⟨Nat.le_refl 0, Nat.le_refl 0⟩) (fun H locs I => ?_)
    refine r_ei I (r_runV X I pk_X11_standsNow (c11_standsNow l G _ _ _ _) lm_X11_210 (by decide) (cl_11 rfl) rfl rfl rfl hl.1 rfl (Nat.le_of_ble_eq_true rfl) dX11_stands_21 ⟨Nat.le_of_ble_eq_true rfl, Nat.le_of_ble_eq_true rfl⟩ ⟨Nat.le_refl 0, Nat.le_refl 0⟩) (fun H locs I => ?_)
    refine lv_goto (tgt := 28) X.1 X.2.1 dX11_stands_24 (by decide) ?_
    have h9 := hE.trans ((if_pos (b2i_y c_1)).trans rfl)
    exact r_iret X I (e_i (congrArg Prod.fst h9).symm (congrArg Prod.snd h9).symm rfl) dX11_stands_28
def f11_arrived (σ : SI) (x1 : Int32) : Int32 × SI := let s0 := sp σ 24 2 (σ 32 4); let s1 := sp s0 24 3 (σ 32 5); let s2 := sp s1 24 4 (σ 32 3); let s3 := sp s2 24 5 (σ 32 6); let s4 := (f0_setGrievance 24 s3 x1 ((f0_grievanceOf 24 s3 x1) - (σ 32 8))); let s5 := sp s4 24 7 ((s4 24 7) + (σ 32 8)); let s6 := (f5_note 24 s5 x1 (s4 32 7) (σ 32 8)); ((σ 32 8), s6)
theorem w_f11_arrived (σ : SI) (x1 : Int32) (a : Nat) (h0 : a ≠ 24) (h1 : a ≠ 25) (h2 : a ≠ 28) : (f11_arrived σ x1).2 a = σ a := by
  unfold f11_arrived
  (repeat' split) <;> (first | rfl | (simp only [sp_n, su_n, ne_eq, not_false_eq_true, h0, h1, h2, w_f0_setGrievance, w_f5_note]; done) | (simp [sp_n, su_n, ne_eq, not_false_eq_true, h0, h1, h2, w_f0_setGrievance, w_f5_note]; done))
set_option maxHeartbeats 4000000 in
set_option maxRecDepth 100000 in
theorem c11_arrived (l : Launch) (G : GT) (σ : SI) (τ : SL) (x1 : Int32) : Mc l yX11_arrived cX11_arrived 3 (some .int) 3 G [.ref (G.2.1 0), .int x1] σ τ (Qi G (Ei (f11_arrived σ x1).1 (f11_arrived σ x1).2 τ)) := by
  refine m_start (by decide +kernel) (Nat.le_of_ble_eq_true rfl) rfl (fun p e s m args below meth c ls X I hl => ?_)
  have hl : lv_has ls 3 [(0, .ref (G.2.1 0)), (1, .int x1)] := hl
  obtain ⟨E, hE⟩ : ∃ E, E = (f11_arrived σ x1) := ⟨_, rfl⟩
  rw [← hE]
  refine lv_aload_n X.1 X.2.1 dX11_arrived_0 rfl (lv_at hl 0 rfl) ?_
  refine g11_7 X I (k := 0) (by decide) rfl lf_X11_65 dX11_arrived_1 ?_
  refine g4_8 X I (k := 32) (by decide) rfl lf_X11_245 dX11_arrived_4 ?_
  refine lv_istore_n (lv' := [(2, .int _), (0, .ref _), (1, .int _)]) X.1 X.2.1 dX11_arrived_7 rfl hl (by decide) rfl (fun ls hl => ?_)
  refine lv_aload_n X.1 X.2.1 dX11_arrived_8 rfl (lv_at hl 1 rfl) ?_
  refine g11_5 X I (k := 0) (by decide) rfl lf_X11_49 dX11_arrived_9 ?_
  refine lv_aload_n X.1 X.2.1 dX11_arrived_12 rfl (lv_at hl 1 rfl) ?_
  refine g11_7 X I (k := 0) (by decide) rfl lf_X11_65 dX11_arrived_13 ?_
  refine g4_4 X I (k := 32) (by decide) rfl lf_X11_248 dX11_arrived_16 ?_
  refine p0_2 X I (k := 24) (by decide) rfl lf_X11_216 dX11_arrived_19 (fun H locs I => ?_)
  refine lv_aload_n X.1 X.2.1 dX11_arrived_22 rfl (lv_at hl 1 rfl) ?_
  refine g11_5 X I (k := 0) (by decide) rfl lf_X11_49 dX11_arrived_23 ?_
  refine lv_aload_n X.1 X.2.1 dX11_arrived_26 rfl (lv_at hl 1 rfl) ?_
  refine g11_7 X I (k := 0) (by decide) rfl lf_X11_65 dX11_arrived_27 ?_
  refine g4_5 X I (k := 32) (by decide) rfl lf_X11_249 dX11_arrived_30 ?_
  refine p0_3 X I (k := 24) (by decide) rfl lf_X11_252 dX11_arrived_33 (fun H locs I => ?_)
  refine lv_aload_n X.1 X.2.1 dX11_arrived_36 rfl (lv_at hl 1 rfl) ?_
  refine g11_5 X I (k := 0) (by decide) rfl lf_X11_49 dX11_arrived_37 ?_
  refine lv_aload_n X.1 X.2.1 dX11_arrived_40 rfl (lv_at hl 1 rfl) ?_
  refine g11_7 X I (k := 0) (by decide) rfl lf_X11_65 dX11_arrived_41 ?_
  refine g4_3 X I (k := 32) (by decide) rfl lf_X11_253 dX11_arrived_44 ?_
  refine p0_4 X I (k := 24) (by decide) rfl lf_X11_213 dX11_arrived_47 (fun H locs I => ?_)
  refine lv_aload_n X.1 X.2.1 dX11_arrived_50 rfl (lv_at hl 1 rfl) ?_
  refine g11_5 X I (k := 0) (by decide) rfl lf_X11_49 dX11_arrived_51 ?_
  refine lv_aload_n X.1 X.2.1 dX11_arrived_54 rfl (lv_at hl 1 rfl) ?_
  refine g11_7 X I (k := 0) (by decide) rfl lf_X11_65 dX11_arrived_55 ?_
  refine g4_6 X I (k := 32) (by decide) rfl lf_X11_254 dX11_arrived_58 ?_
  refine p0_5 X I (k := 24) (by decide) rfl lf_X11_257 dX11_arrived_61 (fun H locs I => ?_)
  refine lv_aload_n X.1 X.2.1 dX11_arrived_64 rfl (lv_at hl 1 rfl) ?_
  refine g11_5 X I (k := 0) (by decide) rfl lf_X11_49 dX11_arrived_65 ?_
  refine lv_iload_n X.1 X.2.1 dX11_arrived_68 rfl (lv_at hl 2 rfl) ?_
  refine lv_aload_n X.1 X.2.1 dX11_arrived_69 rfl (lv_at hl 1 rfl) ?_
  refine g11_5 X I (k := 0) (by decide) rfl lf_X11_49 dX11_arrived_70 ?_
  refine lv_iload_n X.1 X.2.1 dX11_arrived_73 rfl (lv_at hl 2 rfl) ?_
  refine r_ei I (r_runV X I pk_X0_grievanceOf (c0_grievanceOf l G (k := 24) ⟨by decide, rfl, rfl⟩ _ _ _) lm_X11_185 (by decide) (cl_0 rfl) rfl rfl rfl hl.1 rfl (Nat.le_of_ble_eq_true rfl) dX11_arrived_74 ⟨Nat.le_of_ble_eq_true rfl, Nat.le_of_ble_eq_true rfl⟩ ⟨Nat.le_refl 0, Nat.le_refl 0⟩) (fun H locs I => ?_)
  refine lv_iload_n X.1 X.2.1 dX11_arrived_77 rfl (lv_at hl 0 rfl) ?_
  refine lv_isub X.1 X.2.1 dX11_arrived_78 ?_
  refine r_ev I (r_runV X I pk_X0_setGrievance (c0_setGrievance l G (k := 24) ⟨by decide, rfl, rfl⟩ _ _ _ _) lm_X11_258 (by decide) (cl_0 rfl) rfl rfl rfl hl.1 rfl (Nat.le_of_ble_eq_true rfl) dX11_arrived_79 ⟨Nat.le_of_ble_eq_true rfl, Nat.le_of_ble_eq_true rfl⟩ ⟨Nat.le_refl 0, Nat.le_refl 0⟩) (fun H locs I => ?_)
  refine lv_aload_n X.1 X.2.1 dX11_arrived_82 rfl (lv_at hl 1 rfl) ?_
  refine g11_5 X I (k := 0) (by decide) rfl lf_X11_49 dX11_arrived_83 ?_
  refine lv_dup X.1 X.2.1 dX11_arrived_86 rfl ?_
  refine g0_7 X I (k := 24) (by decide) rfl lf_X11_262 dX11_arrived_87 ?_
  refine lv_iload_n X.1 X.2.1 dX11_arrived_90 rfl (lv_at hl 0 rfl) ?_
  refine lv_iadd X.1 X.2.1 dX11_arrived_91 ?_
  refine p0_7 X I (k := 24) (by decide) rfl lf_X11_262 dX11_arrived_92 (fun H locs I => ?_)
  refine lv_aload_n X.1 X.2.1 dX11_arrived_95 rfl (lv_at hl 1 rfl) ?_
  refine g11_6 X I (k := 0) (by decide) rfl lf_X11_56 dX11_arrived_96 ?_
  refine lv_aload_n X.1 X.2.1 dX11_arrived_99 rfl (lv_at hl 1 rfl) ?_
  refine g11_5 X I (k := 0) (by decide) rfl lf_X11_49 dX11_arrived_100 ?_
  refine lv_iload_n X.1 X.2.1 dX11_arrived_103 rfl (lv_at hl 2 rfl) ?_
  refine lv_aload_n X.1 X.2.1 dX11_arrived_104 rfl (lv_at hl 1 rfl) ?_
  refine g11_7 X I (k := 0) (by decide) rfl lf_X11_65 dX11_arrived_105 ?_
  refine g4_7 X I (k := 32) (by decide) rfl lf_X11_265 dX11_arrived_108 ?_
  refine lv_iload_n X.1 X.2.1 dX11_arrived_111 rfl (lv_at hl 0 rfl) ?_
  refine r_ev I (r_runV X I pk_X5_note (c5_note l G (k1 := 24) ⟨by decide, rfl, rfl⟩ _ _ _ _ _) lm_X11_268 (by decide) (cl_5 rfl) rfl rfl rfl hl.1 rfl (Nat.le_of_ble_eq_true rfl) dX11_arrived_112 ⟨Nat.le_of_ble_eq_true rfl, Nat.le_of_ble_eq_true rfl⟩ ⟨Nat.le_refl 0, Nat.le_refl 0⟩) (fun H locs I => ?_)
  refine lv_iload_n X.1 X.2.1 dX11_arrived_115 rfl (lv_at hl 0 rfl) ?_
  have h9 := hE
  exact r_iret X I (e_i (congrArg Prod.fst h9).symm (congrArg Prod.snd h9).symm rfl) dX11_arrived_116
