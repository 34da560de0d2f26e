noncomputable def f12_putAside_c2 (x1 : Int32) : Nat → Int32 → SI → SI
  | 0, _, σ => σ
  | fu + 1, v2, σ => if (14 : Int32) ≤ v2 then σ else (let s0 := sp σ 143 (Int32.toNatClampNeg (((14 : Int32) * x1) + v2)) (σ 140 (Int32.toNatClampNeg v2)); (f12_putAside_c2 x1 fu (v2 + 1) s0))
noncomputable def o12_putAside_c2 (x1 : Int32) : Nat → Int32 → SI → Prop
  | 0, _, _ => True
  | fu + 1, v2, σ => if (14 : Int32) ≤ v2 then True else ((vp_in v2 255) ∧ ((vp_in (((14 : Int32) * x1) + v2) 126) ∧ (let s0 := sp σ 143 (Int32.toNatClampNeg (((14 : Int32) * x1) + v2)) (σ 140 (Int32.toNatClampNeg v2)); (o12_putAside_c2 x1 fu (v2 + 1) s0))))
noncomputable def f12_putAside (σ : SI) (x1 : Int32) : SI := (f12_putAside_c2 x1 (fu1 ((Int32.toInt (14 : Int32) - Int32.toInt (0 : Int32)).toNat)) (0 : Int32) σ)
noncomputable def o12_putAside (σ : SI) (x1 : Int32) : Prop := (o12_putAside_c2 x1 (fu1 ((Int32.toInt (14 : Int32) - Int32.toInt (0 : Int32)).toNat)) (0 : Int32) σ)
theorem w_f12_putAside_c2 (x1 : Int32) (a : Nat) (h0 : a ≠ 143) : ∀ (fu : Nat) (v2 : Int32) (σ : SI), (f12_putAside_c2 x1 fu v2 σ) a = σ a := by
  intro fu
  induction fu with
  | zero => intro v2 σ; exact rfl
  | succ fu ih =>
    intro v2 σ
    unfold f12_putAside_c2
    exact (fr_ite rfl ((ih _ _).trans (sp_n h0)))
theorem w_f12_putAside (σ : SI) (x1 : Int32) (a : Nat) (h0 : a ≠ 143) : (f12_putAside σ x1) a = σ a := by
  unfold f12_putAside
  exact (w_f12_putAside_c2 _ a h0 _ _ _)
set_option maxHeartbeats 4000000 in
set_option maxRecDepth 100000 in
theorem c12_putAside_c2 {l : Launch} {p : Program} {e : Env} {s : State} {m : MethodId} {args : Array Value} {below : List Frame} {meth : Method} {c : Code} {G : GT} (X : CX p s m args meth c cX12_putAside RX12 3 none G) {E : SI} (τ : SL) (x1 : Int32) : ∀ (fu : Nat) (v2 : Int32) (σ : SI) (H : Heap) (locs : List Loc) (ls : Array Slot), IX G s H locs σ τ → lv_has ls 3 [(0, .ref (G.2.1 123)), (1, .int x1), (2, .int v2)] → (o12_putAside_c2 x1 fu v2 σ) → (Int32.toInt (14 : Int32) - Int32.toInt v2).toNat < fu → E = (f12_putAside_c2 x1 fu v2 σ) → W p l e (rmN 0) s m args below meth c H locs 0 0 (MQ below ((Qv G (Ev E τ)) s.heap.size) args s 0 0 (AW G s.heap.size)) (F0 m 2 ls []) := by
  intro fu
  induction fu with
  | zero =>
    intro v2 σ H locs ls I hl  ho hm hE
    exact absurd hm (Nat.not_lt_zero _)
  | succ fu ih =>
    intro v2 σ H locs ls I hl  ho hm hE
    unfold o12_putAside_c2 at ho
    refine lv_iload_n X.1 X.2.1 dX12_putAside_2 rfl (lv_at hl 2 rfl) ?_
    refine lv_bipush (v := 14) X.1 X.2.1 dX12_putAside_3 (by decide) ?_
    refine lv_icmp_ge (tgt := 31) X.1 X.2.1 dX12_putAside_5 (by decide) (fun c_1 => ?_) (fun c_1 => ?_)
    · skip
      have hE := ite_t hE c_1
      have ho := ite_tP ho c_1
      have h9 := hE
      exact r_vret X I (e_v h9.symm rfl) dX12_putAside_31
    · skip
      have hE := ite_f hE c_1
      have ho := ite_fP ho c_1
      refine lv_aload_n X.1 X.2.1 dX12_putAside_8 rfl (lv_at hl 0 rfl) ?_
      refine g12_34 X I (k := 123) (by decide) rfl lf_X12_74 dX12_putAside_9 ?_
      refine lv_bipush (v := 14) X.1 X.2.1 dX12_putAside_12 (by decide) ?_
      refine lv_iload_n X.1 X.2.1 dX12_putAside_14 rfl (lv_at hl 1 rfl) ?_
      refine lv_imul X.1 X.2.1 dX12_putAside_15 ?_
      refine lv_iload_n X.1 X.2.1 dX12_putAside_16 rfl (lv_at hl 2 rfl) ?_
      refine lv_iadd X.1 X.2.1 dX12_putAside_17 ?_
      refine lv_aload_n X.1 X.2.1 dX12_putAside_18 rfl (lv_at hl 0 rfl) ?_
      refine g12_27 X I (k := 123) (by decide) rfl lf_X12_58 dX12_putAside_19 ?_
      refine lv_iload_n X.1 X.2.1 dX12_putAside_22 rfl (lv_at hl 2 rfl) ?_
      have ho1 := ho.1
      have ho := ho.2
      refine r_ald X I (k := 140) (n := 255) (by decide) rfl ho1 dX12_putAside_23 ?_
      have ho2 := ho.1
      have ho := ho.2
      refine r_ast X I (k := 143) (n := 126) (by decide) rfl ho2 dX12_putAside_24 (fun H locs I => ?_)
      refine lv_iinc (v := _ + 1) (lv' := [(2, .int _), (0, .ref _), (1, .int _)]) X.1 X.2.1 dX12_putAside_25 hl (k := 2) rfl rfl (by decide) rfl (fun ls hl => ?_)
      refine lv_goto (tgt := 2) X.1 X.2.1 dX12_putAside_28 (by decide) ?_
      exact ih _ _ _ _ _ I (lv_sub hl [1, 2, 0] rfl) ho (Nat.lt_of_lt_of_le (up_dec c_1) (Nat.le_of_lt_succ hm)) (hE.trans (rfl))
set_option maxHeartbeats 4000000 in
set_option maxRecDepth 100000 in
theorem c12_putAside (l : Launch) (G : GT) (σ : SI) (τ : SL) (x1 : Int32) (ho : o12_putAside σ x1) : Mc l yX12_putAside cX12_putAside 3 none 0 G [.ref (G.2.1 123), .int x1] σ τ (Qv G (Ev (f12_putAside σ x1) τ)) := by
  refine m_start (by decide +kernel) (Nat.le_of_ble_eq_true rfl) rfl (fun p e s m args below meth c ls X I hl => ?_)
  have hl : lv_has ls 3 [(0, .ref (G.2.1 123)), (1, .int x1)] := hl
  obtain ⟨E, hE⟩ : ∃ E, E = (f12_putAside σ x1) := ⟨_, rfl⟩
  rw [← hE]
  unfold o12_putAside at ho
  refine lv_iconst (v := 0) X.1 X.2.1 dX12_putAside_0 (by decide) ?_
  refine lv_istore_n (lv' := [(2, .int _), (0, .ref _), (1, .int _)]) X.1 X.2.1 dX12_putAside_1 rfl hl (by decide) rfl (fun ls hl => ?_)
  exact c12_putAside_c2 X _ _ _ _ _ _ _ _ I (lv_sub hl [1, 2, 0] rfl) ho (fu1_lt _) (hE.trans (rfl))
noncomputable def f12_takeBack_c2 (x1 : Int32) : Nat → Int32 → SI → SI
  | 0, _, σ => σ
  | fu + 1, v2, σ => if (14 : Int32) ≤ v2 then σ else (let s0 := sp σ 140 (Int32.toNatClampNeg v2) (σ 143 (Int32.toNatClampNeg (((14 : Int32) * x1) + v2))); (f12_takeBack_c2 x1 fu (v2 + 1) s0))
noncomputable def o12_takeBack_c2 (x1 : Int32) : Nat → Int32 → SI → Prop
  | 0, _, _ => True
  | fu + 1, v2, σ => if (14 : Int32) ≤ v2 then True else ((vp_in (((14 : Int32) * x1) + v2) 126) ∧ ((vp_in v2 255) ∧ (let s0 := sp σ 140 (Int32.toNatClampNeg v2) (σ 143 (Int32.toNatClampNeg (((14 : Int32) * x1) + v2))); (o12_takeBack_c2 x1 fu (v2 + 1) s0))))
noncomputable def f12_takeBack (σ : SI) (x1 : Int32) : SI := (f12_takeBack_c2 x1 (fu1 ((Int32.toInt (14 : Int32) - Int32.toInt (0 : Int32)).toNat)) (0 : Int32) σ)
noncomputable def o12_takeBack (σ : SI) (x1 : Int32) : Prop := (o12_takeBack_c2 x1 (fu1 ((Int32.toInt (14 : Int32) - Int32.toInt (0 : Int32)).toNat)) (0 : Int32) σ)
theorem w_f12_takeBack_c2 (x1 : Int32) (a : Nat) (h0 : a ≠ 140) : ∀ (fu : Nat) (v2 : Int32) (σ : SI), (f12_takeBack_c2 x1 fu v2 σ) a = σ a := by
  intro fu
  induction fu with
  | zero => intro v2 σ; exact rfl
  | succ fu ih =>
    intro v2 σ
    unfold f12_takeBack_c2
    exact (fr_ite rfl ((ih _ _).trans (sp_n h0)))
theorem w_f12_takeBack (σ : SI) (x1 : Int32) (a : Nat) (h0 : a ≠ 140) : (f12_takeBack σ x1) a = σ a := by
  unfold f12_takeBack
  exact (w_f12_takeBack_c2 _ a h0 _ _ _)
set_option maxHeartbeats 4000000 in
set_option maxRecDepth 100000 in
theorem c12_takeBack_c2 {l : Launch} {p : Program} {e : Env} {s : State} {m : MethodId} {args : Array Value} {below : List Frame} {meth : Method} {c : Code} {G : GT} (X : CX p s m args meth c cX12_takeBack RX12 3 none G) {E : SI} (τ : SL) (x1 : Int32) : ∀ (fu : Nat) (v2 : Int32) (σ : SI) (H : Heap) (locs : List Loc) (ls : Array Slot), IX G s H locs σ τ → lv_has ls 3 [(0, .ref (G.2.1 123)), (1, .int x1), (2, .int v2)] → (o12_takeBack_c2 x1 fu v2 σ) → (Int32.toInt (14 : Int32) - Int32.toInt v2).toNat < fu → E = (f12_takeBack_c2 x1 fu v2 σ) → W p l e (rmN 0) s m args below meth c H locs 0 0 (MQ below ((Qv G (Ev E τ)) s.heap.size) args s 0 0 (AW G s.heap.size)) (F0 m 2 ls []) := by
  intro fu
  induction fu with
  | zero =>
    intro v2 σ H locs ls I hl  ho hm hE
    exact absurd hm (Nat.not_lt_zero _)
  | succ fu ih =>
    intro v2 σ H locs ls I hl  ho hm hE
    unfold o12_takeBack_c2 at ho
    refine lv_iload_n X.1 X.2.1 dX12_takeBack_2 rfl (lv_at hl 2 rfl) ?_
    refine lv_bipush (v := 14) X.1 X.2.1 dX12_takeBack_3 (by decide) ?_
    refine lv_icmp_ge (tgt := 31) X.1 X.2.1 dX12_takeBack_5 (by decide) (fun c_1 => ?_) (fun c_1 => ?_)
    · skip
      have hE := ite_t hE c_1
      have ho := ite_tP ho c_1
      have h9 := hE
      exact r_vret X I (e_v h9.symm rfl) dX12_takeBack_31
    · skip
      have hE := ite_f hE c_1
      have ho := ite_fP ho c_1
      refine lv_aload_n X.1 X.2.1 dX12_takeBack_8 rfl (lv_at hl 0 rfl) ?_
      refine g12_27 X I (k := 123) (by decide) rfl lf_X12_58 dX12_takeBack_9 ?_
      refine lv_iload_n X.1 X.2.1 dX12_takeBack_12 rfl (lv_at hl 2 rfl) ?_
      refine lv_aload_n X.1 X.2.1 dX12_takeBack_13 rfl (lv_at hl 0 rfl) ?_
      refine g12_34 X I (k := 123) (by decide) rfl lf_X12_74 dX12_takeBack_14 ?_
      refine lv_bipush (v := 14) X.1 X.2.1 dX12_takeBack_17 (by decide) ?_
      refine lv_iload_n X.1 X.2.1 dX12_takeBack_19 rfl (lv_at hl 1 rfl) ?_
      refine lv_imul X.1 X.2.1 dX12_takeBack_20 ?_
      refine lv_iload_n X.1 X.2.1 dX12_takeBack_21 rfl (lv_at hl 2 rfl) ?_
      refine lv_iadd X.1 X.2.1 dX12_takeBack_22 ?_
      have ho1 := ho.1
      have ho := ho.2
      refine r_ald X I (k := 143) (n := 126) (by decide) rfl ho1 dX12_takeBack_23 ?_
      have ho2 := ho.1
      have ho := ho.2
      refine r_ast X I (k := 140) (n := 255) (by decide) rfl ho2 dX12_takeBack_24 (fun H locs I => ?_)
      refine lv_iinc (v := _ + 1) (lv' := [(2, .int _), (0, .ref _), (1, .int _)]) X.1 X.2.1 dX12_takeBack_25 hl (k := 2) rfl rfl (by decide) rfl (fun ls hl => ?_)
      refine lv_goto (tgt := 2) X.1 X.2.1 dX12_takeBack_28 (by decide) ?_
      exact ih _ _ _ _ _ I (lv_sub hl [1, 2, 0] rfl) ho (Nat.lt_of_lt_of_le (up_dec c_1) (Nat.le_of_lt_succ hm)) (hE.trans (rfl))
set_option maxHeartbeats 4000000 in
set_option maxRecDepth 100000 in
theorem c12_takeBack (l : Launch) (G : GT) (σ : SI) (τ : SL) (x1 : Int32) (ho : o12_takeBack σ x1) : Mc l yX12_takeBack cX12_takeBack 3 none 0 G [.ref (G.2.1 123), .int x1] σ τ (Qv G (Ev (f12_takeBack σ x1) τ)) := by
  refine m_start (by decide +kernel) (Nat.le_of_ble_eq_true rfl) rfl (fun p e s m args below meth c ls X I hl => ?_)
  have hl : lv_has ls 3 [(0, .ref (G.2.1 123)), (1, .int x1)] := hl
  obtain ⟨E, hE⟩ : ∃ E, E = (f12_takeBack σ x1) := ⟨_, rfl⟩
  rw [← hE]
  unfold o12_takeBack at ho
  refine lv_iconst (v := 0) X.1 X.2.1 dX12_takeBack_0 (by decide) ?_
  refine lv_istore_n (lv' := [(2, .int _), (0, .ref _), (1, .int _)]) X.1 X.2.1 dX12_takeBack_1 rfl hl (by decide) rfl (fun ls hl => ?_)
  exact c12_takeBack_c2 X _ _ _ _ _ _ _ _ I (lv_sub hl [1, 2, 0] rfl) ho (fu1_lt _) (hE.trans (rfl))
noncomputable def f12_tryRoute_c86 (T : SI → Int32 → Int32 → Int32 → SI) (x1 : Int32) (x2 : Int32) (x3 : Int32) (x4 : Int32) : Nat → Int32 → SI → SI
  | 0, _, σ => σ
  | fu + 1, v5, σ => if (σ 123 25) ≤ v5 then σ else (let r5 := (f12_whyNot σ v5); if r5.1 = (-1 : Int32) then (let r6 := (f12_carryNow r5.2 v5); let s7 := (T r6.2 (x1 + (1 : Int32)) (((10 : Int32) * x2) + v5) (x3 + r6.1)); let s8 := (f12_takeBack s7 x1); (f12_tryRoute_c86 T x1 x2 x3 x4 fu (v5 + 1) s8)) else (f12_tryRoute_c86 T x1 x2 x3 x4 fu (v5 + 1) r5.2))
noncomputable def o12_tryRoute_c86 (T : SI → Int32 → Int32 → Int32 → SI) (oT : SI → Int32 → Int32 → Int32 → Prop) (x1 : Int32) (x2 : Int32) (x3 : Int32) (x4 : Int32) : Nat → Int32 → SI → Prop
  | 0, _, _ => False
  | fu + 1, v5, σ => if (σ 123 25) ≤ v5 then True else ((o12_whyNot σ v5) ∧ (let r5 := (f12_whyNot σ v5); if r5.1 = (-1 : Int32) then ((o12_carryNow r5.2 v5) ∧ (let r6 := (f12_carryNow r5.2 v5); (oT r6.2 (x1 + (1 : Int32)) (((10 : Int32) * x2) + v5) (x3 + r6.1)) ∧ (let s7 := (T r6.2 (x1 + (1 : Int32)) (((10 : Int32) * x2) + v5) (x3 + r6.1)); (o12_takeBack s7 x1) ∧ (let s8 := (f12_takeBack s7 x1); (o12_tryRoute_c86 T oT x1 x2 x3 x4 fu (v5 + 1) s8))))) else (o12_tryRoute_c86 T oT x1 x2 x3 x4 fu (v5 + 1) r5.2)))
noncomputable def f12_tryRoute (T : SI → Int32 → Int32 → Int32 → SI) (σ : SI) (x1 : Int32) (x2 : Int32) (x3 : Int32) : SI := if (σ 123 36) < x3 then (let s0 := sp σ 123 35 x2; let s1 := sp s0 123 36 x3; let s2 := sp s1 123 37 x1; let s3 := sp s2 123 38 (σ 140 8); let s4 := (f12_putAside s3 x1); (f12_tryRoute_c86 T x1 x2 x3 (1 : Int32) (fu1 ((Int32.toInt (s4 123 25)).toNat + 1)) (0 : Int32) s4)) else (if x3 = (σ 123 36) then (if x1 < (σ 123 37) then (let s10 := sp σ 123 35 x2; let s11 := sp s10 123 36 x3; let s12 := sp s11 123 37 x1; let s13 := sp s12 123 38 (σ 140 8); let s14 := (f12_putAside s13 x1); (f12_tryRoute_c86 T x1 x2 x3 (1 : Int32) (fu1 ((Int32.toInt (s14 123 25)).toNat + 1)) (0 : Int32) s14)) else (if x1 = (σ 123 37) then (if (σ 123 35) ≤ x2 then (let s16 := (f12_putAside σ x1); (f12_tryRoute_c86 T x1 x2 x3 (0 : Int32) (fu1 ((Int32.toInt (s16 123 25)).toNat + 1)) (0 : Int32) s16)) else (let s17 := sp σ 123 35 x2; let s18 := sp s17 123 36 x3; let s19 := sp s18 123 37 x1; let s20 := sp s19 123 38 (σ 140 8); let s21 := (f12_putAside s20 x1); (f12_tryRoute_c86 T x1 x2 x3 (1 : Int32) (fu1 ((Int32.toInt (s21 123 25)).toNat + 1)) (0 : Int32) s21))) else (let s15 := (f12_putAside σ x1); (f12_tryRoute_c86 T x1 x2 x3 (0 : Int32) (fu1 ((Int32.toInt (s15 123 25)).toNat + 1)) (0 : Int32) s15)))) else (let s9 := (f12_putAside σ x1); (f12_tryRoute_c86 T x1 x2 x3 (0 : Int32) (fu1 ((Int32.toInt (s9 123 25)).toNat + 1)) (0 : Int32) s9)))
noncomputable def o12_tryRoute (T : SI → Int32 → Int32 → Int32 → SI) (oT : SI → Int32 → Int32 → Int32 → Prop) (σ : SI) (x1 : Int32) (x2 : Int32) (x3 : Int32) : Prop := if (σ 123 36) < x3 then (let s0 := sp σ 123 35 x2; let s1 := sp s0 123 36 x3; let s2 := sp s1 123 37 x1; let s3 := sp s2 123 38 (σ 140 8); (o12_putAside s3 x1) ∧ (let s4 := (f12_putAside s3 x1); (o12_tryRoute_c86 T oT x1 x2 x3 (1 : Int32) (fu1 ((Int32.toInt (s4 123 25)).toNat + 1)) (0 : Int32) s4))) else (if x3 = (σ 123 36) then (if x1 < (σ 123 37) then (let s10 := sp σ 123 35 x2; let s11 := sp s10 123 36 x3; let s12 := sp s11 123 37 x1; let s13 := sp s12 123 38 (σ 140 8); (o12_putAside s13 x1) ∧ (let s14 := (f12_putAside s13 x1); (o12_tryRoute_c86 T oT x1 x2 x3 (1 : Int32) (fu1 ((Int32.toInt (s14 123 25)).toNat + 1)) (0 : Int32) s14))) else (if x1 = (σ 123 37) then (if (σ 123 35) ≤ x2 then ((o12_putAside σ x1) ∧ (let s16 := (f12_putAside σ x1); (o12_tryRoute_c86 T oT x1 x2 x3 (0 : Int32) (fu1 ((Int32.toInt (s16 123 25)).toNat + 1)) (0 : Int32) s16))) else (let s17 := sp σ 123 35 x2; let s18 := sp s17 123 36 x3; let s19 := sp s18 123 37 x1; let s20 := sp s19 123 38 (σ 140 8); (o12_putAside s20 x1) ∧ (let s21 := (f12_putAside s20 x1); (o12_tryRoute_c86 T oT x1 x2 x3 (1 : Int32) (fu1 ((Int32.toInt (s21 123 25)).toNat + 1)) (0 : Int32) s21)))) else ((o12_putAside σ x1) ∧ (let s15 := (f12_putAside σ x1); (o12_tryRoute_c86 T oT x1 x2 x3 (0 : Int32) (fu1 ((Int32.toInt (s15 123 25)).toNat + 1)) (0 : Int32) s15))))) else ((o12_putAside σ x1) ∧ (let s9 := (f12_putAside σ x1); (o12_tryRoute_c86 T oT x1 x2 x3 (0 : Int32) (fu1 ((Int32.toInt (s9 123 25)).toNat + 1)) (0 : Int32) s9))))
theorem w_f12_tryRoute_c86 {T : SI → Int32 → Int32 → Int32 → SI} (hTf : ∀ (σ : SI) (x1 : Int32) (x2 : Int32) (x3 : Int32) (b : Nat), b ≠ 123 → b ≠ 132 → b ≠ 133 → b ≠ 140 → b ≠ 143 → (T σ x1 x2 x3) b = σ b) (x1 : Int32) (x2 : Int32) (x3 : Int32) (x4 : Int32) (a : Nat) (h0 : a ≠ 123) (h1 : a ≠ 132) (h2 : a ≠ 133) (h3 : a ≠ 140) (h4 : a ≠ 143) : ∀ (fu : Nat) (v5 : Int32) (σ : SI), (f12_tryRoute_c86 T x1 x2 x3 x4 fu v5 σ) a = σ a := by
  intro fu
  induction fu with
  | zero => intro v5 σ; exact rfl
  | succ fu ih =>
    intro v5 σ
    unfold f12_tryRoute_c86
    exact (fr_ite rfl (fr_ite ((ih _ _).trans ((w_f12_takeBack _ _ a h3).trans ((hTf _ _ _ _ a h0 h1 h2 h3 h4).trans ((w_f12_carryNow _ _ a h1 h2 h3).trans (w_f12_whyNot _ _ a h1 h2))))) ((ih _ _).trans (w_f12_whyNot _ _ a h1 h2))))
theorem w_f12_tryRoute {T : SI → Int32 → Int32 → Int32 → SI} (hTf : ∀ (σ : SI) (x1 : Int32) (x2 : Int32) (x3 : Int32) (b : Nat), b ≠ 123 → b ≠ 132 → b ≠ 133 → b ≠ 140 → b ≠ 143 → (T σ x1 x2 x3) b = σ b) (σ : SI) (x1 : Int32) (x2 : Int32) (x3 : Int32) (a : Nat) (h0 : a ≠ 123) (h1 : a ≠ 132) (h2 : a ≠ 133) (h3 : a ≠ 140) (h4 : a ≠ 143) : (f12_tryRoute T σ x1 x2 x3) a = σ a := by
  unfold f12_tryRoute
  exact (fr_ite ((w_f12_tryRoute_c86 hTf _ _ _ _ a h0 h1 h2 h3 h4 _ _ _).trans ((w_f12_putAside _ _ a h4).trans ((sp_n h0).trans ((sp_n h0).trans ((sp_n h0).trans (sp_n h0)))))) (fr_ite (fr_ite ((w_f12_tryRoute_c86 hTf _ _ _ _ a h0 h1 h2 h3 h4 _ _ _).trans ((w_f12_putAside _ _ a h4).trans ((sp_n h0).trans ((sp_n h0).trans ((sp_n h0).trans (sp_n h0)))))) (fr_ite (fr_ite ((w_f12_tryRoute_c86 hTf _ _ _ _ a h0 h1 h2 h3 h4 _ _ _).trans (w_f12_putAside _ _ a h4)) ((w_f12_tryRoute_c86 hTf _ _ _ _ a h0 h1 h2 h3 h4 _ _ _).trans ((w_f12_putAside _ _ a h4).trans ((sp_n h0).trans ((sp_n h0).trans ((sp_n h0).trans (sp_n h0))))))) ((w_f12_tryRoute_c86 hTf _ _ _ _ a h0 h1 h2 h3 h4 _ _ _).trans (w_f12_putAside _ _ a h4)))) ((w_f12_tryRoute_c86 hTf _ _ _ _ a h0 h1 h2 h3 h4 _ _ _).trans (w_f12_putAside _ _ a h4))))
set_option maxHeartbeats 4000000 in
set_option maxRecDepth 100000 in
theorem c12_tryRoute_c86 {l : Launch} {p : Program} {e : Env} {s : State} {m : MethodId} {args : Array Value} {below : List Frame} {meth : Method} {c : Code} {G : GT} (X : CX p s m args meth c cX12_tryRoute RX12 7 none G) {T : SI → Int32 → Int32 → Int32 → SI} {oT : SI → Int32 → Int32 → Int32 → Prop} {D : Nat} (hT : ∀ (σ : SI) (τ : SL) (x1 : Int32) (x2 : Int32) (x3 : Int32), oT σ x1 x2 x3 → Mc l yX12_tryRoute cX12_tryRoute 7 none (40 + D) G [.ref (G.2.1 123), .int x1, .int x2, .int x3] σ τ (Qv G (Ev (T σ x1 x2 x3) τ))) {E : SI} (τ : SL) (x1 : Int32) (x2 : Int32) (x3 : Int32) (x4 : Int32) : ∀ (fu : Nat) (v5 : Int32) (σ : SI) (H : Heap) (locs : List Loc) (ls : Array Slot), IX G s H locs σ τ → lv_has ls 7 [(0, .ref (G.2.1 123)), (1, .int x1), (2, .int x2), (3, .int x3), (4, .int x4), (5, .int v5)] → (o12_tryRoute_c86 T oT x1 x2 x3 x4 fu v5 σ) → E = (f12_tryRoute_c86 T x1 x2 x3 x4 fu v5 σ) → W p l e (rmN (40 + D + 1)) s m args below meth c H locs 0 0 (MQ below ((Qv G (Ev E τ)) s.heap.size) args s 0 0 (AW G s.heap.size)) (F0 m 86 ls []) := by
  intro fu
  induction fu with
  | zero =>
    intro v5 σ H locs ls I hl  ho hE
    unfold o12_tryRoute_c86 at ho
    exact ho.elim
  | succ fu ih =>
    intro v5 σ H locs ls I hl  ho hE
    unfold o12_tryRoute_c86 at ho
    refine lv_iload X.1 X.2.1 dX12_tryRoute_86 (lv_at hl 5 rfl) ?_
    refine lv_aload_n X.1 X.2.1 dX12_tryRoute_88 rfl (lv_at hl 0 rfl) ?_
    refine g12_25 X I (k := 123) (by decide) rfl lf_X12_264 dX12_tryRoute_89 ?_
    refine lv_icmp_ge (tgt := 142) X.1 X.2.1 dX12_tryRoute_92 (by decide) (fun c_3 => ?_) (fun c_3 => ?_)
    · skip
      have hE := ite_t hE c_3
      have ho := ite_tP ho c_3
      have h9 := hE
      exact r_vret X I (e_v h9.symm rfl) dX12_tryRoute_142
    · skip
      have hE := ite_f hE c_3
      have ho := ite_fP ho c_3
      refine lv_aload_n X.1 X.2.1 dX12_tryRoute_95 rfl (lv_at hl 0 rfl) ?_
      refine lv_iload X.1 X.2.1 dX12_tryRoute_96 (lv_at hl 5 rfl) ?_
      have ho2 := ho.1
      have ho := ho.2
      refine r_ei I (r_runV X I pk_X12_whyNot (c12_whyNot l G _ _ _ ho2) lm_X12_344 (by decide) (cl_12 rfl) rfl rfl rfl hl.1 rfl (Nat.le_of_ble_eq_true rfl) dX12_tryRoute_98 (hr_le (by omega) (by decide)) ⟨Nat.le_refl 0, Nat.le_refl 0⟩) (fun H locs I => ?_)
      refine lv_iconst (v := (-1)) X.1 X.2.1 dX12_tryRoute_101 (by decide) ?_
      refine lv_icmp_ne (tgt := 136) X.1 X.2.1 dX12_tryRoute_102 (by decide) (fun c_4 => ?_) (fun c_4 => ?_)
      · skip
        have hE := ite_f hE c_4
        have ho := ite_fP ho c_4
        refine lv_iinc (v := _ + 1) (lv' := [(5, .int _), (0, .ref _), (1, .int _), (2, .int _), (3, .int _), (4, .int _)]) X.1 X.2.1 dX12_tryRoute_136 hl (k := 5) rfl rfl (by decide) rfl (fun ls hl => ?_)
        refine lv_goto (tgt := 86) X.1 X.2.1 dX12_tryRoute_139 (by decide) ?_
        exact ih _ _ _ _ _ I (lv_sub hl [1, 2, 3, 4, 5, 0] rfl) ho (hE.trans (rfl))
      · skip
        have hE := ite_t hE c_4
        have ho := ite_tP ho c_4
        refine lv_aload_n X.1 X.2.1 dX12_tryRoute_105 rfl (lv_at hl 0 rfl) ?_
        refine lv_iload X.1 X.2.1 dX12_tryRoute_106 (lv_at hl 5 rfl) ?_
        have ho3 := ho.1
        have ho := ho.2
        refine r_ei I (r_runV X I pk_X12_carryNow (c12_carryNow l G _ _ _ ho3) lm_X12_341 (by decide) (cl_12 rfl) rfl rfl rfl hl.1 rfl (Nat.le_of_ble_eq_true rfl) dX12_tryRoute_108 (hr_le (by omega) (by decide)) ⟨Nat.le_refl 0, Nat.le_refl 0⟩) (fun H locs I => ?_)
        refine lv_istore (lv' := [(6, .int _), (0, .ref _), (1, .int _), (2, .int _), (3, .int _), (4, .int _), (5, .int _)]) X.1 X.2.1 dX12_tryRoute_111 hl (by decide) rfl (fun ls hl => ?_)
        refine lv_aload_n X.1 X.2.1 dX12_tryRoute_113 rfl (lv_at hl 1 rfl) ?_
        refine lv_iload_n X.1 X.2.1 dX12_tryRoute_114 rfl (lv_at hl 2 rfl) ?_
        refine lv_iconst (v := 1) X.1 X.2.1 dX12_tryRoute_115 (by decide) ?_
        refine lv_iadd X.1 X.2.1 dX12_tryRoute_116 ?_
        refine lv_bipush (v := 10) X.1 X.2.1 dX12_tryRoute_117 (by decide) ?_
        refine lv_iload_n X.1 X.2.1 dX12_tryRoute_119 rfl (lv_at hl 3 rfl) ?_
        refine lv_imul X.1 X.2.1 dX12_tryRoute_120 ?_
        refine lv_iload X.1 X.2.1 dX12_tryRoute_121 (lv_at hl 6 rfl) ?_
        refine lv_iadd X.1 X.2.1 dX12_tryRoute_123 ?_
        refine lv_iload_n X.1 X.2.1 dX12_tryRoute_124 rfl (lv_at hl 4 rfl) ?_
        refine lv_iload X.1 X.2.1 dX12_tryRoute_125 (lv_at hl 0 rfl) ?_
        refine lv_iadd X.1 X.2.1 dX12_tryRoute_127 ?_
        have ho4 := ho.1
        have ho := ho.2
        refine r_ev I (r_runV X I pk_X12_tryRoute (hT _ _ _ _ _ ho4) lm_X12_388 (by decide) (cl_12 rfl) rfl rfl rfl hl.1 rfl (Nat.le_of_ble_eq_true rfl) dX12_tryRoute_128 (hr_le (by omega) (by decide)) ⟨Nat.le_refl 0, Nat.le_refl 0⟩) (fun H locs I => ?_)
        refine lv_aload_n X.1 X.2.1 dX12_tryRoute_131 rfl (lv_at hl 1 rfl) ?_
        refine lv_iload_n X.1 X.2.1 dX12_tryRoute_132 rfl (lv_at hl 2 rfl) ?_
        have ho5 := ho.1
        have ho := ho.2
        refine r_ev I (r_runV X I pk_X12_takeBack (c12_takeBack l G _ _ _ ho5) lm_X12_392 (by decide) (cl_12 rfl) rfl rfl rfl hl.1 rfl (Nat.le_of_ble_eq_true rfl) dX12_tryRoute_133 (hr_le (by omega) (by decide)) ⟨Nat.le_refl 0, Nat.le_refl 0⟩) (fun H locs I => ?_)
        refine lv_iinc (v := _ + 1) (lv' := [(5, .int _), (6, .int _), (0, .ref _), (1, .int _), (2, .int _), (3, .int _), (4, .int _)]) X.1 X.2.1 dX12_tryRoute_136 hl (k := 6) rfl rfl (by decide) rfl (fun ls hl => ?_)
        refine lv_goto (tgt := 86) X.1 X.2.1 dX12_tryRoute_139 (by decide) ?_
        exact ih _ _ _ _ _ I (lv_sub hl [2, 3, 4, 5, 6, 0] rfl) ho (hE.trans (rfl))
set_option maxHeartbeats 4000000 in
set_option maxRecDepth 100000 in
theorem c12_tryRoute (l : Launch) (G : GT) {T : SI → Int32 → Int32 → Int32 → SI} {oT : SI → Int32 → Int32 → Int32 → Prop} {D : Nat} (hT : ∀ (σ : SI) (τ : SL) (x1 : Int32) (x2 : Int32) (x3 : Int32), oT σ x1 x2 x3 → Mc l yX12_tryRoute cX12_tryRoute 7 none (40 + D) G [.ref (G.2.1 123), .int x1, .int x2, .int x3] σ τ (Qv G (Ev (T σ x1 x2 x3) τ))) (σ : SI) (τ : SL) (x1 : Int32) (x2 : Int32) (x3 : Int32) (ho : o12_tryRoute T oT σ x1 x2 x3) : Mc l yX12_tryRoute cX12_tryRoute 7 none (40 + D + 1) G [.ref (G.2.1 123), .int x1, .int x2, .int x3] σ τ (Qv G (Ev (f12_tryRoute T σ x1 x2 x3) τ)) := by
  refine m_start (by decide +kernel) (Nat.le_of_ble_eq_true rfl) rfl (fun p e s m args below meth c ls X I hl => ?_)
  have hl : lv_has ls 7 [(0, .ref (G.2.1 123)), (1, .int x1), (2, .int x2), (3, .int x3)] := hl
  obtain ⟨E, hE⟩ : ∃ E, E = (f12_tryRoute T σ x1 x2 x3) := ⟨_, rfl⟩
  rw [← hE]
  unfold o12_tryRoute at ho
  refine lv_iload_n X.1 X.2.1 dX12_tryRoute_0 rfl (lv_at hl 3 rfl) ?_
  refine lv_aload_n X.1 X.2.1 dX12_tryRoute_1 rfl (lv_at hl 0 rfl) ?_
  refine g12_36 X I (k := 123) (by decide) rfl lf_X12_373 dX12_tryRoute_2 ?_
  refine lv_icmp_gt (tgt := 40) X.1 X.2.1 dX12_tryRoute_5 (by decide) (fun c_1 => ?_) (fun c_1 => ?_)
  · skip
    have hE := ite_t hE c_1
    have ho := ite_tP ho c_1
    refine lv_iconst (v := 1) X.1 X.2.1 dX12_tryRoute_40 (by decide) ?_
    refine lv_goto (tgt := 45) X.1 X.2.1 dX12_tryRoute_41 (by decide) ?_
    refine lv_istore (lv' := [(4, .int _), (0, .ref _), (1, .int _), (2, .int _), (3, .int _)]) X.1 X.2.1 dX12_tryRoute_45 hl (by decide) rfl (fun ls hl => ?_)
    refine lv_iload X.1 X.2.1 dX12_tryRoute_47 (lv_at hl 0 rfl) ?_
    refine lv_if_eq (tgt := 78) X.1 X.2.1 dX12_tryRoute_49 (by decide) (fun c_2 => ?_) (fun c_2 => ?_)
    · exact absurd c_2 (by decide)
    · skip
      refine lv_aload_n X.1 X.2.1 dX12_tryRoute_52 rfl (lv_at hl 1 rfl) ?_
      refine lv_iload_n X.1 X.2.1 dX12_tryRoute_53 rfl (lv_at hl 3 rfl) ?_
      refine p12_35 X I (k := 123) (by decide) rfl lf_X12_379 dX12_tryRoute_54 (fun H locs I => ?_)
      refine lv_aload_n X.1 X.2.1 dX12_tryRoute_57 rfl (lv_at hl 1 rfl) ?_
      refine lv_iload_n X.1 X.2.1 dX12_tryRoute_58 rfl (lv_at hl 4 rfl) ?_
      refine p12_36 X I (k := 123) (by decide) rfl lf_X12_373 dX12_tryRoute_59 (fun H locs I => ?_)
      refine lv_aload_n X.1 X.2.1 dX12_tryRoute_62 rfl (lv_at hl 1 rfl) ?_
      refine lv_iload_n X.1 X.2.1 dX12_tryRoute_63 rfl (lv_at hl 2 rfl) ?_
      refine p12_37 X I (k := 123) (by decide) rfl lf_X12_376 dX12_tryRoute_64 (fun H locs I => ?_)
      refine lv_aload_n X.1 X.2.1 dX12_tryRoute_67 rfl (lv_at hl 1 rfl) ?_
      refine lv_aload_n X.1 X.2.1 dX12_tryRoute_68 rfl (lv_at hl 1 rfl) ?_
      refine g12_27 X I (k := 123) (by decide) rfl lf_X12_58 dX12_tryRoute_69 ?_
      refine lv_bipush (v := 8) X.1 X.2.1 dX12_tryRoute_72 (by decide) ?_
      refine r_ald X I (k := 140) (n := 255) (by decide) rfl (by unfold vp_in; decide) dX12_tryRoute_74 ?_
      refine p12_38 X I (k := 123) (by decide) rfl lf_X12_382 dX12_tryRoute_75 (fun H locs I => ?_)
      refine lv_aload_n X.1 X.2.1 dX12_tryRoute_78 rfl (lv_at hl 1 rfl) ?_
      refine lv_iload_n X.1 X.2.1 dX12_tryRoute_79 rfl (lv_at hl 2 rfl) ?_
      have ho1 := ho.1
      have ho := ho.2
      refine r_ev I (r_runV X I pk_X12_putAside (c12_putAside l G _ _ _ ho1) lm_X12_385 (by decide) (cl_12 rfl) rfl rfl rfl hl.1 rfl (Nat.le_of_ble_eq_true rfl) dX12_tryRoute_80 (hr_le (by omega) (by decide)) ⟨Nat.le_refl 0, Nat.le_refl 0⟩) (fun H locs I => ?_)
      refine lv_iconst (v := 0) X.1 X.2.1 dX12_tryRoute_83 (by decide) ?_
      refine lv_istore (lv' := [(5, .int _), (4, .int _), (0, .ref _), (1, .int _), (2, .int _), (3, .int _)]) X.1 X.2.1 dX12_tryRoute_84 hl (by decide) rfl (fun ls hl => ?_)
      exact c12_tryRoute_c86 X hT _ _ _ _ _ _ _ _ _ _ _ I (lv_sub hl [2, 3, 4, 5, 1, 0] rfl) ho (hE.trans (rfl))
  · skip
    have hE := ite_f hE c_1
    have ho := ite_fP ho c_1
    refine lv_iload_n X.1 X.2.1 dX12_tryRoute_8 rfl (lv_at hl 3 rfl) ?_
    refine lv_aload_n X.1 X.2.1 dX12_tryRoute_9 rfl (lv_at hl 0 rfl) ?_
    refine g12_36 X I (k := 123) (by decide) rfl lf_X12_373 dX12_tryRoute_10 ?_
    refine lv_icmp_ne (tgt := 44) X.1 X.2.1 dX12_tryRoute_13 (by decide) (fun c_5 => ?_) (fun c_5 => ?_)
    · skip
      have hE := ite_f hE c_5
      have ho := ite_fP ho c_5
      refine lv_iconst (v := 0) X.1 X.2.1 dX12_tryRoute_44 (by decide) ?_
      refine lv_istore (lv' := [(4, .int _), (0, .ref _), (1, .int _), (2, .int _), (3, .int _)]) X.1 X.2.1 dX12_tryRoute_45 hl (by decide) rfl (fun ls hl => ?_)
      refine lv_iload X.1 X.2.1 dX12_tryRoute_47 (lv_at hl 0 rfl) ?_
      refine lv_if_eq (tgt := 78) X.1 X.2.1 dX12_tryRoute_49 (by decide) (fun c_6 => ?_) (fun c_6 => ?_)
      · skip
        refine lv_aload_n X.1 X.2.1 dX12_tryRoute_78 rfl (lv_at hl 1 rfl) ?_
        refine lv_iload_n X.1 X.2.1 dX12_tryRoute_79 rfl (lv_at hl 2 rfl) ?_
        have ho6 := ho.1
        have ho := ho.2
        refine r_ev I (r_runV X I pk_X12_putAside (c12_putAside l G _ _ _ ho6) lm_X12_385 (by decide) (cl_12 rfl) rfl rfl rfl hl.1 rfl (Nat.le_of_ble_eq_true rfl) dX12_tryRoute_80 (hr_le (by omega) (by decide)) ⟨Nat.le_refl 0, Nat.le_refl 0⟩) (fun H locs I => ?_)
        refine lv_iconst (v := 0) X.1 X.2.1 dX12_tryRoute_83 (by decide) ?_
        refine lv_istore (lv' := [(5, .int _), (4, .int _), (0, .ref _), (1, .int _), (2, .int _), (3, .int _)]) X.1 X.2.1 dX12_tryRoute_84 hl (by decide) rfl (fun ls hl => ?_)
        exact c12_tryRoute_c86 X hT _ _ _ _ _ _ _ _ _ _ _ I (lv_sub hl [2, 3, 4, 5, 1, 0] rfl) ho (hE.trans (rfl))
      · exact absurd c_6 (by decide)
    · skip
      have hE := ite_t hE c_5
      have ho := ite_tP ho c_5
      refine lv_iload_n X.1 X.2.1 dX12_tryRoute_16 rfl (lv_at hl 1 rfl) ?_
      refine lv_aload_n X.1 X.2.1 dX12_tryRoute_17 rfl (lv_at hl 0 rfl) ?_
      refine g12_37 X I (k := 123) (by decide) rfl lf_X12_376 dX12_tryRoute_18 ?_
      refine lv_icmp_lt (tgt := 40) X.1 X.2.1 dX12_tryRoute_21 (by decide) (fun c_7 => ?_) (fun c_7 => ?_)
      · skip
        have hE := ite_t hE c_7
        have ho := ite_tP ho c_7
        refine lv_iconst (v := 1) X.1 X.2.1 dX12_tryRoute_40 (by decide) ?_
        refine lv_goto (tgt := 45) X.1 X.2.1 dX12_tryRoute_41 (by decide) ?_
        refine lv_istore (lv' := [(4, .int _), (0, .ref _), (1, .int _), (2, .int _), (3, .int _)]) X.1 X.2.1 dX12_tryRoute_45 hl (by decide) rfl (fun ls hl => ?_)
        refine lv_iload X.1 X.2.1 dX12_tryRoute_47 (lv_at hl 0 rfl) ?_
        refine lv_if_eq (tgt := 78) X.1 X.2.1 dX12_tryRoute_49 (by decide) (fun c_8 => ?_) (fun c_8 => ?_)
        · exact absurd c_8 (by decide)
        · skip
          refine lv_aload_n X.1 X.2.1 dX12_tryRoute_52 rfl (lv_at hl 1 rfl) ?_
          refine lv_iload_n X.1 X.2.1 dX12_tryRoute_53 rfl (lv_at hl 3 rfl) ?_
          refine p12_35 X I (k := 123) (by decide) rfl lf_X12_379 dX12_tryRoute_54 (fun H locs I => ?_)
          refine lv_aload_n X.1 X.2.1 dX12_tryRoute_57 rfl (lv_at hl 1 rfl) ?_
          refine lv_iload_n X.1 X.2.1 dX12_tryRoute_58 rfl (lv_at hl 4 rfl) ?_
          refine p12_36 X I (k := 123) (by decide) rfl lf_X12_373 dX12_tryRoute_59 (fun H locs I => ?_)
          refine lv_aload_n X.1 X.2.1 dX12_tryRoute_62 rfl (lv_at hl 1 rfl) ?_
          refine lv_iload_n X.1 X.2.1 dX12_tryRoute_63 rfl (lv_at hl 2 rfl) ?_
          refine p12_37 X I (k := 123) (by decide) rfl lf_X12_376 dX12_tryRoute_64 (fun H locs I => ?_)
          refine lv_aload_n X.1 X.2.1 dX12_tryRoute_67 rfl (lv_at hl 1 rfl) ?_
          refine lv_aload_n X.1 X.2.1 dX12_tryRoute_68 rfl (lv_at hl 1 rfl) ?_
          refine g12_27 X I (k := 123) (by decide) rfl lf_X12_58 dX12_tryRoute_69 ?_
          refine lv_bipush (v := 8) X.1 X.2.1 dX12_tryRoute_72 (by decide) ?_
          refine r_ald X I (k := 140) (n := 255) (by decide) rfl (by unfold vp_in; decide) dX12_tryRoute_74 ?_
          refine p12_38 X I (k := 123) (by decide) rfl lf_X12_382 dX12_tryRoute_75 (fun H locs I => ?_)
          refine lv_aload_n X.1 X.2.1 dX12_tryRoute_78 rfl (lv_at hl 1 rfl) ?_
          refine lv_iload_n X.1 X.2.1 dX12_tryRoute_79 rfl (lv_at hl 2 rfl) ?_
          have ho7 := ho.1
          have ho := ho.2
          refine r_ev I (r_runV X I pk_X12_putAside (c12_putAside l G _ _ _ ho7) lm_X12_385 (by decide) (cl_12 rfl) rfl rfl rfl hl.1 rfl (Nat.le_of_ble_eq_true rfl) dX12_tryRoute_80 (hr_le (by omega) (by decide)) ⟨Nat.le_refl 0, Nat.le_refl 0⟩) (fun H locs I => ?_)
          refine lv_iconst (v := 0) X.1 X.2.1 dX12_tryRoute_83 (by decide) ?_
          refine lv_istore (lv' := [(5, .int _), (4, .int _), (0, .ref _), (1, .int _), (2, .int _), (3, .int _)]) X.1 X.2.1 dX12_tryRoute_84 hl (by decide) rfl (fun ls hl => ?_)
          exact c12_tryRoute_c86 X hT _ _ _ _ _ _ _ _ _ _ _ I (lv_sub hl [2, 3, 4, 5, 1, 0] rfl) ho (hE.trans (rfl))
      · skip
        have hE := ite_f hE c_7
        have ho := ite_fP ho c_7
        refine lv_iload_n X.1 X.2.1 dX12_tryRoute_24 rfl (lv_at hl 1 rfl) ?_
        refine lv_aload_n X.1 X.2.1 dX12_tryRoute_25 rfl (lv_at hl 0 rfl) ?_
        refine g12_37 X I (k := 123) (by decide) rfl lf_X12_376 dX12_tryRoute_26 ?_
        refine lv_icmp_ne (tgt := 44) X.1 X.2.1 dX12_tryRoute_29 (by decide) (fun c_9 => ?_) (fun c_9 => ?_)
        · skip
          have hE := ite_f hE c_9
          have ho := ite_fP ho c_9
          refine lv_iconst (v := 0) X.1 X.2.1 dX12_tryRoute_44 (by decide) ?_
          refine lv_istore (lv' := [(4, .int _), (0, .ref _), (1, .int _), (2, .int _), (3, .int _)]) X.1 X.2.1 dX12_tryRoute_45 hl (by decide) rfl (fun ls hl => ?_)
          refine lv_iload X.1 X.2.1 dX12_tryRoute_47 (lv_at hl 0 rfl) ?_
          refine lv_if_eq (tgt := 78) X.1 X.2.1 dX12_tryRoute_49 (by decide) (fun c_10 => ?_) (fun c_10 => ?_)
          · skip
            refine lv_aload_n X.1 X.2.1 dX12_tryRoute_78 rfl (lv_at hl 1 rfl) ?_
            refine lv_iload_n X.1 X.2.1 dX12_tryRoute_79 rfl (lv_at hl 2 rfl) ?_
            have ho8 := ho.1
            have ho := ho.2
            refine r_ev I (r_runV X I pk_X12_putAside (c12_putAside l G _ _ _ ho8) lm_X12_385 (by decide) (cl_12 rfl) rfl rfl rfl hl.1 rfl (Nat.le_of_ble_eq_true rfl) dX12_tryRoute_80 (hr_le (by omega) (by decide)) ⟨Nat.le_refl 0, Nat.le_refl 0⟩) (fun H locs I => ?_)
            refine lv_iconst (v := 0) X.1 X.2.1 dX12_tryRoute_83 (by decide) ?_
            refine lv_istore (lv' := [(5, .int _), (4, .int _), (0, .ref _), (1, .int _), (2, .int _), (3, .int _)]) X.1 X.2.1 dX12_tryRoute_84 hl (by decide) rfl (fun ls hl => ?_)
            exact c12_tryRoute_c86 X hT _ _ _ _ _ _ _ _ _ _ _ I (lv_sub hl [2, 3, 4, 5, 1, 0] rfl) ho (hE.trans (rfl))
          · exact absurd c_10 (by decide)
        · skip
          have hE := ite_t hE c_9
          have ho := ite_tP ho c_9
          refine lv_iload_n X.1 X.2.1 dX12_tryRoute_32 rfl (lv_at hl 2 rfl) ?_
          refine lv_aload_n X.1 X.2.1 dX12_tryRoute_33 rfl (lv_at hl 0 rfl) ?_
          refine g12_35 X I (k := 123) (by decide) rfl lf_X12_379 dX12_tryRoute_34 ?_
          refine lv_icmp_ge (tgt := 44) X.1 X.2.1 dX12_tryRoute_37 (by decide) (fun c_11 => ?_) (fun c_11 => ?_)
          · skip
            have hE := ite_t hE c_11
            have ho := ite_tP ho c_11
            refine lv_iconst (v := 0) X.1 X.2.1 dX12_tryRoute_44 (by decide) ?_
            refine lv_istore (lv' := [(4, .int _), (0, .ref _), (1, .int _), (2, .int _), (3, .int _)]) X.1 X.2.1 dX12_tryRoute_45 hl (by decide) rfl (fun ls hl => ?_)
            refine lv_iload X.1 X.2.1 dX12_tryRoute_47 (lv_at hl 0 rfl) ?_
            refine lv_if_eq (tgt := 78) X.1 X.2.1 dX12_tryRoute_49 (by decide) (fun c_12 => ?_) (fun c_12 => ?_)
            · skip
              refine lv_aload_n X.1 X.2.1 dX12_tryRoute_78 rfl (lv_at hl 1 rfl) ?_
              refine lv_iload_n X.1 X.2.1 dX12_tryRoute_79 rfl (lv_at hl 2 rfl) ?_
              have ho9 := ho.1
              have ho := ho.2
              refine r_ev I (r_runV X I pk_X12_putAside (c12_putAside l G _ _ _ ho9) lm_X12_385 (by decide) (cl_12 rfl) rfl rfl rfl hl.1 rfl (Nat.le_of_ble_eq_true rfl) dX12_tryRoute_80 (hr_le (by omega) (by decide)) ⟨Nat.le_refl 0, Nat.le_refl 0⟩) (fun H locs I => ?_)
              refine lv_iconst (v := 0) X.1 X.2.1 dX12_tryRoute_83 (by decide) ?_
              refine lv_istore (lv' := [(5, .int _), (4, .int _), (0, .ref _), (1, .int _), (2, .int _), (3, .int _)]) X.1 X.2.1 dX12_tryRoute_84 hl (by decide) rfl (fun ls hl => ?_)
              exact c12_tryRoute_c86 X hT _ _ _ _ _ _ _ _ _ _ _ I (lv_sub hl [2, 3, 4, 5, 1, 0] rfl) ho (hE.trans (rfl))
            · exact absurd c_12 (by decide)
          · skip
            have hE := ite_f hE c_11
            have ho := ite_fP ho c_11
            refine lv_iconst (v := 1) X.1 X.2.1 dX12_tryRoute_40 (by decide) ?_
            refine lv_goto (tgt := 45) X.1 X.2.1 dX12_tryRoute_41 (by decide) ?_
            refine lv_istore (lv' := [(4, .int _), (0, .ref _), (1, .int _), (2, .int _), (3, .int _)]) X.1 X.2.1 dX12_tryRoute_45 hl (by decide) rfl (fun ls hl => ?_)
            refine lv_iload X.1 X.2.1 dX12_tryRoute_47 (lv_at hl 0 rfl) ?_
            refine lv_if_eq (tgt := 78) X.1 X.2.1 dX12_tryRoute_49 (by decide) (fun c_13 => ?_) (fun c_13 => ?_)
            · exact absurd c_13 (by decide)
            · skip
              refine lv_aload_n X.1 X.2.1 dX12_tryRoute_52 rfl (lv_at hl 1 rfl) ?_
              refine lv_iload_n X.1 X.2.1 dX12_tryRoute_53 rfl (lv_at hl 3 rfl) ?_
              refine p12_35 X I (k := 123) (by decide) rfl lf_X12_379 dX12_tryRoute_54 (fun H locs I => ?_)
              refine lv_aload_n X.1 X.2.1 dX12_tryRoute_57 rfl (lv_at hl 1 rfl) ?_
              refine lv_iload_n X.1 X.2.1 dX12_tryRoute_58 rfl (lv_at hl 4 rfl) ?_
              refine p12_36 X I (k := 123) (by decide) rfl lf_X12_373 dX12_tryRoute_59 (fun H locs I => ?_)
              refine lv_aload_n X.1 X.2.1 dX12_tryRoute_62 rfl (lv_at hl 1 rfl) ?_
              refine lv_iload_n X.1 X.2.1 dX12_tryRoute_63 rfl (lv_at hl 2 rfl) ?_
              refine p12_37 X I (k := 123) (by decide) rfl lf_X12_376 dX12_tryRoute_64 (fun H locs I => ?_)
              refine lv_aload_n X.1 X.2.1 dX12_tryRoute_67 rfl (lv_at hl 1 rfl) ?_
              refine lv_aload_n X.1 X.2.1 dX12_tryRoute_68 rfl (lv_at hl 1 rfl) ?_
              refine g12_27 X I (k := 123) (by decide) rfl lf_X12_58 dX12_tryRoute_69 ?_
              refine lv_bipush (v := 8) X.1 X.2.1 dX12_tryRoute_72 (by decide) ?_
              refine r_ald X I (k := 140) (n := 255) (by decide) rfl (by unfold vp_in; decide) dX12_tryRoute_74 ?_
              refine p12_38 X I (k := 123) (by decide) rfl lf_X12_382 dX12_tryRoute_75 (fun H locs I => ?_)
              refine lv_aload_n X.1 X.2.1 dX12_tryRoute_78 rfl (lv_at hl 1 rfl) ?_
              refine lv_iload_n X.1 X.2.1 dX12_tryRoute_79 rfl (lv_at hl 2 rfl) ?_
              have ho10 := ho.1
              have ho := ho.2
              refine r_ev I (r_runV X I pk_X12_putAside (c12_putAside l G _ _ _ ho10) lm_X12_385 (by decide) (cl_12 rfl) rfl rfl rfl hl.1 rfl (Nat.le_of_ble_eq_true rfl) dX12_tryRoute_80 (hr_le (by omega) (by decide)) ⟨Nat.le_refl 0, Nat.le_refl 0⟩) (fun H locs I => ?_)
              refine lv_iconst (v := 0) X.1 X.2.1 dX12_tryRoute_83 (by decide) ?_
              refine lv_istore (lv' := [(5, .int _), (4, .int _), (0, .ref _), (1, .int _), (2, .int _), (3, .int _)]) X.1 X.2.1 dX12_tryRoute_84 hl (by decide) rfl (fun ls hl => ?_)
              exact c12_tryRoute_c86 X hT _ _ _ _ _ _ _ _ _ _ _ I (lv_sub hl [2, 3, 4, 5, 1, 0] rfl) ho (hE.trans (rfl))
noncomputable def fm_tryRoute_D : Nat → SI → Int32 → Int32 → Int32 → SI
  | 0 => fun σ _ _ _ => σ
  | D + 1 => fun σ x1 x2 x3 => f12_tryRoute (fm_tryRoute_D D) σ x1 x2 x3
noncomputable def om_tryRoute_D : Nat → SI → Int32 → Int32 → Int32 → Prop
  | 0 => fun _ _ _ _ => False
  | D + 1 => fun σ x1 x2 x3 => o12_tryRoute (fm_tryRoute_D D) (om_tryRoute_D D) σ x1 x2 x3
theorem w_fm_tryRoute_D : ∀ (D : Nat) (σ : SI) (x1 : Int32) (x2 : Int32) (x3 : Int32) (b : Nat), b ≠ 123 → b ≠ 132 → b ≠ 133 → b ≠ 140 → b ≠ 143 → (fm_tryRoute_D D σ x1 x2 x3) b = σ b
  | 0, _, _, _, _, _, _, _, _, _, _ => rfl
  | D + 1, σ, x1, x2, x3, b, h0, h1, h2, h3, h4 => w_f12_tryRoute (fun σ x1 x2 x3 b h0 h1 h2 h3 h4 => w_fm_tryRoute_D D σ x1 x2 x3 b h0 h1 h2 h3 h4) σ x1 x2 x3 b h0 h1 h2 h3 h4
theorem cm_tryRoute_D (l : Launch) (G : GT) : ∀ (D : Nat) (σ : SI) (τ : SL) (x1 : Int32) (x2 : Int32) (x3 : Int32), om_tryRoute_D D σ x1 x2 x3 → Mc l yX12_tryRoute cX12_tryRoute 7 none (40 + D) G [.ref (G.2.1 123), .int x1, .int x2, .int x3] σ τ (Qv G (Ev (fm_tryRoute_D D σ x1 x2 x3) τ))
  | 0, _, _, _, _, _, h => h.elim
  | D + 1, σ, τ, x1, x2, x3, h => c12_tryRoute l G (fun σ τ x1 x2 x3 h => cm_tryRoute_D l G D σ τ x1 x2 x3 h) σ τ x1 x2 x3 h
noncomputable def f12_tryRouteR (σ : SI) (x1 : Int32) (x2 : Int32) (x3 : Int32) : SI := fm_tryRoute_D (blk 9) σ x1 x2 x3
noncomputable def o12_tryRouteR (σ : SI) (x1 : Int32) (x2 : Int32) (x3 : Int32) : Prop := om_tryRoute_D (blk 9) σ x1 x2 x3
theorem w_f12_tryRouteR (σ : SI) (x1 : Int32) (x2 : Int32) (x3 : Int32) (b : Nat) (h0 : b ≠ 123) (h1 : b ≠ 132) (h2 : b ≠ 133) (h3 : b ≠ 140) (h4 : b ≠ 143) : (f12_tryRouteR σ x1 x2 x3) b = σ b := w_fm_tryRoute_D _ σ x1 x2 x3 b h0 h1 h2 h3 h4
theorem c12_tryRouteR (l : Launch) (G : GT) (σ : SI) (τ : SL) (x1 : Int32) (x2 : Int32) (x3 : Int32) (h : o12_tryRouteR σ x1 x2 x3) : Mc l yX12_tryRoute cX12_tryRoute 7 none 49 G [.ref (G.2.1 123), .int x1, .int x2, .int x3] σ τ (Qv G (Ev (f12_tryRouteR σ x1 x2 x3) τ)) := by
  unfold o12_tryRouteR at h
  unfold f12_tryRouteR
  rw [blk_eq] at h ⊢
  exact cm_tryRoute_D l G 9 σ τ x1 x2 x3 h
