noncomputable def f12_fault (σ : SI) (x1 : Int32) : Int32 × SI := if x1 = (0 : Int32) then (let r1 := (f12_readTown σ); r1) else (if x1 = (1 : Int32) then (let r0 := (f12_readLaw σ (4 : Int32)); r0) else ((-2 : Int32), σ))
noncomputable def o12_fault (σ : SI) (x1 : Int32) : Prop := if x1 = (0 : Int32) then ((o12_readTown σ) ∧ (let r1 := (f12_readTown σ); True)) else (if x1 = (1 : Int32) then ((o12_readLaw σ (4 : Int32)) ∧ (let r0 := (f12_readLaw σ (4 : Int32)); True)) else True)
theorem w_f12_fault (σ : SI) (x1 : Int32) (a : Nat) (h0 : a ≠ 123) (h1 : a ≠ 125) (h2 : a ≠ 126) (h3 : a ≠ 127) (h4 : a ≠ 128) (h5 : a ≠ 129) (h6 : a ≠ 130) (h7 : a ≠ 131) (h8 : a ≠ 134) (h9 : a ≠ 135) (h10 : a ≠ 136) : (f12_fault σ x1).2 a = σ a := by
  refine fp_to2 ?_
  unfold f12_fault
  exact (fr_ite2 (w_f12_readTown _ a h0 h8 h9 h10) (fr_ite2 (w_f12_readLaw _ _ a h0 h1 h2 h3 h4 h5 h6 h7) (fr_mk21 rfl)))
set_option maxHeartbeats 4000000 in
set_option maxRecDepth 100000 in
theorem c12_fault (l : Launch) (G : GT) (σ : SI) (τ : SL) (x1 : Int32) (ho : o12_fault σ x1) : Mc l yX12_fault cX12_fault 2 (some .int) 98 G [.ref (G.2.1 123), .int x1] σ τ (Qi G (Ei (f12_fault σ x1).1 (f12_fault σ x1).2 τ)) := by
  refine m_start (by decide +kernel) (Nat.le_of_ble_eq_true rfl) rfl (fun p e s m args below meth c ls X I hl => ?_)
  have hl : lv_has ls 2 [(0, .ref (G.2.1 123)), (1, .int x1)] := hl
  obtain ⟨E, hE⟩ : ∃ E, E = (f12_fault σ x1) := ⟨_, rfl⟩
  rw [← hE]
  unfold o12_fault at ho
  refine lv_iload_n X.1 X.2.1 dX12_fault_0 rfl (lv_at hl 1 rfl) ?_
  refine lv_if_ne (tgt := 11) X.1 X.2.1 dX12_fault_1 (by decide) (fun c_1 => ?_) (fun c_1 => ?_)
  · skip
    have hE := ite_f hE c_1
    have ho := ite_fP ho c_1
    refine lv_iload_n X.1 X.2.1 dX12_fault_11 rfl (lv_at hl 1 rfl) ?_
    refine lv_iconst (v := 1) X.1 X.2.1 dX12_fault_12 (by decide) ?_
    refine lv_icmp_ne (tgt := 24) X.1 X.2.1 dX12_fault_13 (by decide) (fun c_2 => ?_) (fun c_2 => ?_)
    · skip
      have hE := ite_f hE c_2
      have ho := ite_fP ho c_2
      refine lv_bipush (v := (-2)) X.1 X.2.1 dX12_fault_24 (by decide) ?_
      have h9 := hE
      exact r_iret X I (e_i (pr_fst h9) (pr_snd h9) rfl) dX12_fault_26
    · skip
      have hE := ite_t hE c_2
      have ho := ite_tP ho c_2
      refine lv_aload_n X.1 X.2.1 dX12_fault_16 rfl (lv_at hl 0 rfl) ?_
      refine lv_iconst (v := 4) X.1 X.2.1 dX12_fault_17 (by decide) ?_
      have ho1 := ho.1
      have ho := ho.2
      refine r_ei I (r_runV X I pk_X12_readLaw (c12_readLaw l G _ _ _ ho1) lm_X12_261 (by decide) (cl_12 rfl) rfl rfl rfl hl.1 rfl (Nat.le_of_ble_eq_true rfl) dX12_fault_18 ⟨Nat.le_of_ble_eq_true rfl, Nat.le_of_ble_eq_true rfl⟩ ⟨Nat.le_refl 0, Nat.le_refl 0⟩) (fun H locs I => ?_)
      refine lv_goto (tgt := 26) X.1 X.2.1 dX12_fault_21 (by decide) ?_
      have h9 := hE
      exact r_iret X I (e_i (congrArg Prod.fst h9).symm (congrArg Prod.snd h9).symm rfl) dX12_fault_26
  · skip
    have hE := ite_t hE c_1
    have ho := ite_tP ho c_1
    refine lv_aload_n X.1 X.2.1 dX12_fault_4 rfl (lv_at hl 0 rfl) ?_
    have ho2 := ho.1
    have ho := ho.2
    refine r_ei I (r_runV X I pk_X12_readTown (c12_readTown l G _ _ ho2) lm_X12_258 (by decide) (cl_12 rfl) rfl rfl rfl hl.1 rfl (Nat.le_of_ble_eq_true rfl) dX12_fault_5 ⟨Nat.le_of_ble_eq_true rfl, Nat.le_of_ble_eq_true rfl⟩ ⟨Nat.le_refl 0, Nat.le_refl 0⟩) (fun H locs I => ?_)
    refine lv_goto (tgt := 26) X.1 X.2.1 dX12_fault_8 (by decide) ?_
    have h9 := hE
    exact r_iret X I (e_i (congrArg Prod.fst h9).symm (congrArg Prod.snd h9).symm rfl) dX12_fault_26
noncomputable def f12_of (σ : SI) (x1 : Int32) (x2 : Int32) : Int32 := (σ 138 (Int32.toNatClampNeg (((4 : Int32) * x1) + x2)))
noncomputable def o12_of (σ : SI) (x1 : Int32) (x2 : Int32) : Prop := (vp_in (((4 : Int32) * x1) + x2) 28) ∧ True
set_option maxHeartbeats 4000000 in
set_option maxRecDepth 100000 in
theorem c12_of (l : Launch) (G : GT) (σ : SI) (τ : SL) (x1 : Int32) (x2 : Int32) (ho : o12_of σ x1 x2) : Mc l yX12_of cX12_of 3 (some .int) 0 G [.ref (G.2.1 123), .int x1, .int x2] σ τ (Qi G (Ei (f12_of σ x1 x2) σ τ)) := by
  refine m_start (by decide +kernel) (Nat.le_of_ble_eq_true rfl) rfl (fun p e s m args below meth c ls X I hl => ?_)
  have hl : lv_has ls 3 [(0, .ref (G.2.1 123)), (1, .int x1), (2, .int x2)] := hl
  obtain ⟨E, hE⟩ : ∃ E, E = (f12_of σ x1 x2) := ⟨_, rfl⟩
  rw [← hE]
  unfold o12_of at ho
  refine lv_aload_n X.1 X.2.1 dX12_of_0 rfl (lv_at hl 0 rfl) ?_
  refine g12_23 X I (k := 123) (by decide) rfl lf_X12_52 dX12_of_1 ?_
  refine lv_iconst (v := 4) X.1 X.2.1 dX12_of_4 (by decide) ?_
  refine lv_iload_n X.1 X.2.1 dX12_of_5 rfl (lv_at hl 1 rfl) ?_
  refine lv_imul X.1 X.2.1 dX12_of_6 ?_
  refine lv_iload_n X.1 X.2.1 dX12_of_7 rfl (lv_at hl 2 rfl) ?_
  refine lv_iadd X.1 X.2.1 dX12_of_8 ?_
  have ho1 := ho.1
  have ho := ho.2
  refine r_ald X I (k := 138) (n := 28) (by decide) rfl ho1 dX12_of_9 ?_
  have h9 := hE
  exact r_iret X I (e_i h9.symm rfl rfl) dX12_of_10
noncomputable def f12_takeTown_c43 (K : Int32 → SI → (Int32 × SI)) : Nat → Int32 → SI → (Int32 × SI)
  | 0, v1, σ => (K v1 σ)
  | fu + 1, v1, σ => if (28 : Int32) ≤ v1 then (K v1 σ) else (let s2 := sp σ 138 (Int32.toNatClampNeg v1) (σ 135 (Int32.toNatClampNeg v1)); (f12_takeTown_c43 K fu (v1 + 1) s2))
noncomputable def o12_takeTown_c43 (oK : Int32 → SI → Prop) : Nat → Int32 → SI → Prop
  | 0, _, _ => True
  | fu + 1, v1, σ => if (28 : Int32) ≤ v1 then (oK v1 σ) else ((vp_in v1 28) ∧ ((vp_in v1 28) ∧ (let s2 := sp σ 138 (Int32.toNatClampNeg v1) (σ 135 (Int32.toNatClampNeg v1)); (o12_takeTown_c43 oK fu (v1 + 1) s2))))
noncomputable def f12_takeTown_c69 (K : Int32 → SI → (Int32 × SI)) : Nat → Int32 → SI → (Int32 × SI)
  | 0, v1, σ => (K v1 σ)
  | fu + 1, v1, σ => if (5 : Int32) ≤ v1 then (K v1 σ) else (if (σ 123 21) ≤ v1 then (let s3 := sp σ 139 (Int32.toNatClampNeg v1) (0 : Int32); (f12_takeTown_c69 K fu (v1 + 1) s3)) else (let s4 := sp σ 139 (Int32.toNatClampNeg v1) (σ 136 (Int32.toNatClampNeg v1)); (f12_takeTown_c69 K fu (v1 + 1) s4)))
noncomputable def o12_takeTown_c69 (oK : Int32 → SI → Prop) : Nat → Int32 → SI → Prop
  | 0, _, _ => True
  | fu + 1, v1, σ => if (5 : Int32) ≤ v1 then (oK v1 σ) else (if (σ 123 21) ≤ v1 then ((vp_in v1 5) ∧ (let s3 := sp σ 139 (Int32.toNatClampNeg v1) (0 : Int32); (o12_takeTown_c69 oK fu (v1 + 1) s3))) else ((vp_in v1 5) ∧ ((vp_in v1 5) ∧ (let s4 := sp σ 139 (Int32.toNatClampNeg v1) (σ 136 (Int32.toNatClampNeg v1)); (o12_takeTown_c69 oK fu (v1 + 1) s4)))))
noncomputable def f12_takeTown_c106 (K : Int32 → SI → (Int32 × SI)) : Nat → Int32 → SI → (Int32 × SI)
  | 0, v1, σ => (K v1 σ)
  | fu + 1, v1, σ => if (255 : Int32) ≤ v1 then (K v1 σ) else (let s5 := sp σ 140 (Int32.toNatClampNeg v1) (0 : Int32); (f12_takeTown_c106 K fu (v1 + 1) s5))
noncomputable def o12_takeTown_c106 (oK : Int32 → SI → Prop) : Nat → Int32 → SI → Prop
  | 0, _, _ => True
  | fu + 1, v1, σ => if (255 : Int32) ≤ v1 then (oK v1 σ) else ((vp_in v1 255) ∧ (let s5 := sp σ 140 (Int32.toNatClampNeg v1) (0 : Int32); (o12_takeTown_c106 oK fu (v1 + 1) s5)))
noncomputable def f12_takeTown_c128 (K : Int32 → SI → (Int32 × SI)) : Nat → Int32 → SI → (Int32 × SI)
  | 0, v1, σ => (K v1 σ)
  | fu + 1, v1, σ => if (σ 123 25) ≤ v1 then (K v1 σ) else (let s6 := sp σ 140 (Int32.toNatClampNeg ((0 : Int32) + v1)) (f12_of σ v1 (2 : Int32)); (f12_takeTown_c128 K fu (v1 + 1) s6))
noncomputable def o12_takeTown_c128 (oK : Int32 → SI → Prop) : Nat → Int32 → SI → Prop
  | 0, _, _ => True
  | fu + 1, v1, σ => if (σ 123 25) ≤ v1 then (oK v1 σ) else ((o12_of σ v1 (2 : Int32)) ∧ ((vp_in ((0 : Int32) + v1) 255) ∧ (let s6 := sp σ 140 (Int32.toNatClampNeg ((0 : Int32) + v1)) (f12_of σ v1 (2 : Int32)); (o12_takeTown_c128 oK fu (v1 + 1) s6))))
noncomputable def f12_takeTown_c18 : Nat → Int32 → SI → (Int32 × SI)
  | 0, _, σ => (0, σ)
  | fu + 1, v1, σ => if (3 : Int32) ≤ v1 then (f12_takeTown_c43 (fun (y1_1 : Int32) (σk1 : SI) => (f12_takeTown_c69 (fun (y2_1 : Int32) (σk2 : SI) => (f12_takeTown_c106 (fun (y3_1 : Int32) (σk3 : SI) => (f12_takeTown_c128 (fun (y4_1 : Int32) (σk4 : SI) => let s7 := sp σk4 140 7 (σk4 137 1); let s8 := sp s7 140 10 (-1 : Int32); let s9 := sp s8 123 43 (0 : Int32); let s10 := sp s9 123 48 (0 : Int32); let s11 := sp s10 123 32 (0 : Int32); let s12 := sp s11 123 50 (0 : Int32); ((σk4 123 25), s12)) (fu1 ((Int32.toInt (σk3 123 25) - Int32.toInt (0 : Int32)).toNat)) (0 : Int32) σk3)) (fu1 ((Int32.toInt (255 : Int32) - Int32.toInt (0 : Int32)).toNat)) (0 : Int32) σk2)) (fu1 ((Int32.toInt (5 : Int32) - Int32.toInt (0 : Int32)).toNat)) (0 : Int32) σk1)) (fu1 ((Int32.toInt (28 : Int32) - Int32.toInt (0 : Int32)).toNat)) (0 : Int32) σ) else (let s13 := sp σ 137 (Int32.toNatClampNeg v1) (σ 134 (Int32.toNatClampNeg v1)); (f12_takeTown_c18 fu (v1 + 1) s13))
noncomputable def o12_takeTown_c18 : Nat → Int32 → SI → Prop
  | 0, _, _ => True
  | fu + 1, v1, σ => if (3 : Int32) ≤ v1 then (o12_takeTown_c43 (fun (y1_1 : Int32) (σk1 : SI) => (o12_takeTown_c69 (fun (y2_1 : Int32) (σk2 : SI) => (o12_takeTown_c106 (fun (y3_1 : Int32) (σk3 : SI) => (o12_takeTown_c128 (fun (y4_1 : Int32) (σk4 : SI) => let s7 := sp σk4 140 7 (σk4 137 1); let s8 := sp s7 140 10 (-1 : Int32); let s9 := sp s8 123 43 (0 : Int32); let s10 := sp s9 123 48 (0 : Int32); let s11 := sp s10 123 32 (0 : Int32); let s12 := sp s11 123 50 (0 : Int32); True) (fu1 ((Int32.toInt (σk3 123 25) - Int32.toInt (0 : Int32)).toNat)) (0 : Int32) σk3)) (fu1 ((Int32.toInt (255 : Int32) - Int32.toInt (0 : Int32)).toNat)) (0 : Int32) σk2)) (fu1 ((Int32.toInt (5 : Int32) - Int32.toInt (0 : Int32)).toNat)) (0 : Int32) σk1)) (fu1 ((Int32.toInt (28 : Int32) - Int32.toInt (0 : Int32)).toNat)) (0 : Int32) σ) else ((vp_in v1 3) ∧ ((vp_in v1 3) ∧ (let s13 := sp σ 137 (Int32.toNatClampNeg v1) (σ 134 (Int32.toNatClampNeg v1)); (o12_takeTown_c18 fu (v1 + 1) s13))))
noncomputable def f12_takeTown (σ : SI) : Int32 × SI := let s0 := sp σ 123 25 (σ 123 20); let s1 := sp s0 123 26 (σ 123 21); (f12_takeTown_c18 (fu1 ((Int32.toInt (3 : Int32) - Int32.toInt (0 : Int32)).toNat)) (0 : Int32) s1)
noncomputable def o12_takeTown (σ : SI) : Prop := let s0 := sp σ 123 25 (σ 123 20); let s1 := sp s0 123 26 (σ 123 21); (o12_takeTown_c18 (fu1 ((Int32.toInt (3 : Int32) - Int32.toInt (0 : Int32)).toNat)) (0 : Int32) s1)
theorem w_f12_takeTown_c43 {K : Int32 → SI → (Int32 × SI)} (a : Nat) (h0 : a ≠ 123) (h1 : a ≠ 137) (h2 : a ≠ 138) (h3 : a ≠ 139) (h4 : a ≠ 140) (hK : ∀ (v1 : Int32) (σ : SI), (K v1 σ).2 a = σ a) : ∀ (fu : Nat) (v1 : Int32) (σ : SI), (f12_takeTown_c43 K fu v1 σ).2 a = σ a := by
  intro fu
  induction fu with
  | zero => intro v1 σ; exact hK v1 σ
  | succ fu ih =>
    intro v1 σ
    refine fp_to2 ?_
    unfold f12_takeTown_c43
    exact (fr_ite2 (fp_of2 ((hK _ _))) (fp_of2 (((ih _ _).trans (sp_n h2)))))
theorem w_f12_takeTown_c69 {K : Int32 → SI → (Int32 × SI)} (a : Nat) (h0 : a ≠ 123) (h1 : a ≠ 137) (h2 : a ≠ 138) (h3 : a ≠ 139) (h4 : a ≠ 140) (hK : ∀ (v1 : Int32) (σ : SI), (K v1 σ).2 a = σ a) : ∀ (fu : Nat) (v1 : Int32) (σ : SI), (f12_takeTown_c69 K fu v1 σ).2 a = σ a := by
  intro fu
  induction fu with
  | zero => intro v1 σ; exact hK v1 σ
  | succ fu ih =>
    intro v1 σ
    refine fp_to2 ?_
    unfold f12_takeTown_c69
    exact (fr_ite2 (fp_of2 ((hK _ _))) (fr_ite2 (fp_of2 (((ih _ _).trans (sp_n h3)))) (fp_of2 (((ih _ _).trans (sp_n h3))))))
theorem w_f12_takeTown_c106 {K : Int32 → SI → (Int32 × SI)} (a : Nat) (h0 : a ≠ 123) (h1 : a ≠ 137) (h2 : a ≠ 138) (h3 : a ≠ 139) (h4 : a ≠ 140) (hK : ∀ (v1 : Int32) (σ : SI), (K v1 σ).2 a = σ a) : ∀ (fu : Nat) (v1 : Int32) (σ : SI), (f12_takeTown_c106 K fu v1 σ).2 a = σ a := by
  intro fu
  induction fu with
  | zero => intro v1 σ; exact hK v1 σ
  | succ fu ih =>
    intro v1 σ
    refine fp_to2 ?_
    unfold f12_takeTown_c106
    exact (fr_ite2 (fp_of2 ((hK _ _))) (fp_of2 (((ih _ _).trans (sp_n h4)))))
theorem w_f12_takeTown_c128 {K : Int32 → SI → (Int32 × SI)} (a : Nat) (h0 : a ≠ 123) (h1 : a ≠ 137) (h2 : a ≠ 138) (h3 : a ≠ 139) (h4 : a ≠ 140) (hK : ∀ (v1 : Int32) (σ : SI), (K v1 σ).2 a = σ a) : ∀ (fu : Nat) (v1 : Int32) (σ : SI), (f12_takeTown_c128 K fu v1 σ).2 a = σ a := by
  intro fu
  induction fu with
  | zero => intro v1 σ; exact hK v1 σ
  | succ fu ih =>
    intro v1 σ
    refine fp_to2 ?_
    unfold f12_takeTown_c128
    exact (fr_ite2 (fp_of2 ((hK _ _))) (fp_of2 (((ih _ _).trans (sp_n h4)))))
theorem w_f12_takeTown_c18 (a : Nat) (h0 : a ≠ 123) (h1 : a ≠ 137) (h2 : a ≠ 138) (h3 : a ≠ 139) (h4 : a ≠ 140) : ∀ (fu : Nat) (v1 : Int32) (σ : SI), (f12_takeTown_c18 fu v1 σ).2 a = σ a := by
  intro fu
  induction fu with
  | zero => intro v1 σ; exact rfl
  | succ fu ih =>
    intro v1 σ
    refine fp_to2 ?_
    unfold f12_takeTown_c18
    exact (fr_ite2 (fp_of2 ((w_f12_takeTown_c43 a h0 h1 h2 h3 h4 (fun y1_1 σk1 => (fp_to2 ((fp_of2 ((w_f12_takeTown_c69 a h0 h1 h2 h3 h4 (fun y2_1 σk2 => (fp_to2 ((fp_of2 ((w_f12_takeTown_c106 a h0 h1 h2 h3 h4 (fun y3_1 σk3 => (fp_to2 ((fp_of2 ((w_f12_takeTown_c128 a h0 h1 h2 h3 h4 (fun y4_1 σk4 => (fp_to2 ((fr_mk21 ((sp_n h0).trans ((sp_n h0).trans ((sp_n h0).trans ((sp_n h0).trans ((sp_n h4).trans (sp_n h4)))))))))) _ _ _)))))) _ _ _)))))) _ _ _)))))) _ _ _))) (fp_of2 (((ih _ _).trans (sp_n h1)))))
theorem w_f12_takeTown (σ : SI) (a : Nat) (h0 : a ≠ 123) (h1 : a ≠ 137) (h2 : a ≠ 138) (h3 : a ≠ 139) (h4 : a ≠ 140) : (f12_takeTown σ).2 a = σ a := by
  refine fp_to2 ?_
  unfold f12_takeTown
  exact (fp_of2 (((w_f12_takeTown_c18 a h0 h1 h2 h3 h4 _ _ _).trans ((sp_n h0).trans (sp_n h0)))))
set_option maxHeartbeats 4000000 in
set_option maxRecDepth 100000 in
theorem c12_takeTown_c43 {l : Launch} {p : Program} {e : Env} {s : State} {m : MethodId} {args : Array Value} {below : List Frame} {meth : Method} {c : Code} {G : GT} (X : CX p s m args meth c cX12_takeTown RX12 2 (some .int) G) {E : Int32 × SI} (τ : SL) {oK : Int32 → SI → Prop} {K : Int32 → SI → (Int32 × SI)} (hK : ∀ (v1 : Int32) (σ : SI) (H : Heap) (locs : List Loc) (ls : Array Slot), IX G s H locs σ τ → lv_has ls 2 [(0, .ref (G.2.1 123)), (1, .int v1)] → oK v1 σ → E = K v1 σ → W p l e (rmN 1) s m args below meth c H locs 0 0 (MQ below ((Qi G (Ei E.1 E.2 τ)) s.heap.size) args s 0 0 (AW G s.heap.size)) (F0 m 67 ls [])) : ∀ (fu : Nat) (v1 : Int32) (σ : SI) (H : Heap) (locs : List Loc) (ls : Array Slot), IX G s H locs σ τ → lv_has ls 2 [(0, .ref (G.2.1 123)), (1, .int v1)] → (o12_takeTown_c43 oK fu v1 σ) → (Int32.toInt (28 : Int32) - Int32.toInt v1).toNat < fu → E = (f12_takeTown_c43 K fu v1 σ) → W p l e (rmN 1) s m args below meth c H locs 0 0 (MQ below ((Qi G (Ei E.1 E.2 τ)) s.heap.size) args s 0 0 (AW G s.heap.size)) (F0 m 43 ls []) := by
  intro fu
  induction fu with
  | zero =>
    intro v1 σ H locs ls I hl  ho hm hE
    exact absurd hm (Nat.not_lt_zero _)
  | succ fu ih =>
    intro v1 σ H locs ls I hl  ho hm hE
    unfold o12_takeTown_c43 at ho
    refine lv_iload_n X.1 X.2.1 dX12_takeTown_43 rfl (lv_at hl 1 rfl) ?_
    refine lv_bipush (v := 28) X.1 X.2.1 dX12_takeTown_44 (by decide) ?_
    refine lv_icmp_ge (tgt := 67) X.1 X.2.1 dX12_takeTown_46 (by decide) (fun c_2 => ?_) (fun c_2 => ?_)
    · skip
      have hE := ite_t hE c_2
      have ho := ite_tP ho c_2
      exact hK _ _ _ _ _ I (lv_sub hl [0, 1] rfl) ho (hE.trans (rfl))
    · skip
      have hE := ite_f hE c_2
      have ho := ite_fP ho c_2
      refine lv_aload_n X.1 X.2.1 dX12_takeTown_49 rfl (lv_at hl 0 rfl) ?_
      refine g12_23 X I (k := 123) (by decide) rfl lf_X12_52 dX12_takeTown_50 ?_
      refine lv_iload_n X.1 X.2.1 dX12_takeTown_53 rfl (lv_at hl 1 rfl) ?_
      refine lv_aload_n X.1 X.2.1 dX12_takeTown_54 rfl (lv_at hl 0 rfl) ?_
      refine g12_18 X I (k := 123) (by decide) rfl lf_X12_43 dX12_takeTown_55 ?_
      refine lv_iload_n X.1 X.2.1 dX12_takeTown_58 rfl (lv_at hl 1 rfl) ?_
      have ho1 := ho.1
      have ho := ho.2
      refine r_ald X I (k := 135) (n := 28) (by decide) rfl ho1 dX12_takeTown_59 ?_
      have ho2 := ho.1
      have ho := ho.2
      refine r_ast X I (k := 138) (n := 28) (by decide) rfl ho2 dX12_takeTown_60 (fun H locs I => ?_)
      refine lv_iinc (v := _ + 1) (lv' := [(1, .int _), (0, .ref _)]) X.1 X.2.1 dX12_takeTown_61 hl (k := 1) rfl rfl (by decide) rfl (fun ls hl => ?_)
      refine lv_goto (tgt := 43) X.1 X.2.1 dX12_takeTown_64 (by decide) ?_
      exact ih _ _ _ _ _ I (lv_sub hl [1, 0] rfl) ho (Nat.lt_of_lt_of_le (up_dec c_2) (Nat.le_of_lt_succ hm)) (hE.trans (rfl))
set_option maxHeartbeats 4000000 in
set_option maxRecDepth 100000 in
theorem c12_takeTown_c69 {l : Launch} {p : Program} {e : Env} {s : State} {m : MethodId} {args : Array Value} {below : List Frame} {meth : Method} {c : Code} {G : GT} (X : CX p s m args meth c cX12_takeTown RX12 2 (some .int) G) {E : Int32 × SI} (τ : SL) {oK : Int32 → SI → Prop} {K : Int32 → SI → (Int32 × SI)} (hK : ∀ (v1 : Int32) (σ : SI) (H : Heap) (locs : List Loc) (ls : Array Slot), IX G s H locs σ τ → lv_has ls 2 [(0, .ref (G.2.1 123)), (1, .int v1)] → oK v1 σ → E = K v1 σ → W p l e (rmN 1) s m args below meth c H locs 0 0 (MQ below ((Qi G (Ei E.1 E.2 τ)) s.heap.size) args s 0 0 (AW G s.heap.size)) (F0 m 104 ls [])) : ∀ (fu : Nat) (v1 : Int32) (σ : SI) (H : Heap) (locs : List Loc) (ls : Array Slot), IX G s H locs σ τ → lv_has ls 2 [(0, .ref (G.2.1 123)), (1, .int v1)] → (o12_takeTown_c69 oK fu v1 σ) → (Int32.toInt (5 : Int32) - Int32.toInt v1).toNat < fu → E = (f12_takeTown_c69 K fu v1 σ) → W p l e (rmN 1) s m args below meth c H locs 0 0 (MQ below ((Qi G (Ei E.1 E.2 τ)) s.heap.size) args s 0 0 (AW G s.heap.size)) (F0 m 69 ls []) := by
  intro fu
  induction fu with
  | zero =>
    intro v1 σ H locs ls I hl  ho hm hE
    exact absurd hm (Nat.not_lt_zero _)
  | succ fu ih =>
    intro v1 σ H locs ls I hl  ho hm hE
    unfold o12_takeTown_c69 at ho
    refine lv_iload_n X.1 X.2.1 dX12_takeTown_69 rfl (lv_at hl 1 rfl) ?_
    refine lv_iconst (v := 5) X.1 X.2.1 dX12_takeTown_70 (by decide) ?_
    refine lv_icmp_ge (tgt := 104) X.1 X.2.1 dX12_takeTown_71 (by decide) (fun c_3 => ?_) (fun c_3 => ?_)
    · skip
      have hE := ite_t hE c_3
      have ho := ite_tP ho c_3
      exact hK _ _ _ _ _ I (lv_sub hl [0, 1] rfl) ho (hE.trans (rfl))
    · skip
      have hE := ite_f hE c_3
      have ho := ite_fP ho c_3
      refine lv_aload_n X.1 X.2.1 dX12_takeTown_74 rfl (lv_at hl 0 rfl) ?_
      refine g12_24 X I (k := 123) (by decide) rfl lf_X12_55 dX12_takeTown_75 ?_
      refine lv_iload_n X.1 X.2.1 dX12_takeTown_78 rfl (lv_at hl 1 rfl) ?_
      refine lv_iload_n X.1 X.2.1 dX12_takeTown_79 rfl (lv_at hl 1 rfl) ?_
      refine lv_aload_n X.1 X.2.1 dX12_takeTown_80 rfl (lv_at hl 0 rfl) ?_
      refine g12_21 X I (k := 123) (by decide) rfl lf_X12_247 dX12_takeTown_81 ?_
      refine lv_icmp_ge (tgt := 96) X.1 X.2.1 dX12_takeTown_84 (by decide) (fun c_4 => ?_) (fun c_4 => ?_)
      · skip
        have hE := ite_t hE c_4
        have ho := ite_tP ho c_4
        refine lv_iconst (v := 0) X.1 X.2.1 dX12_takeTown_96 (by decide) ?_
        have ho3 := ho.1
        have ho := ho.2
        refine r_ast X I (k := 139) (n := 5) (by decide) rfl ho3 dX12_takeTown_97 (fun H locs I => ?_)
        refine lv_iinc (v := _ + 1) (lv' := [(1, .int _), (0, .ref _)]) X.1 X.2.1 dX12_takeTown_98 hl (k := 1) rfl rfl (by decide) rfl (fun ls hl => ?_)
        refine lv_goto (tgt := 69) X.1 X.2.1 dX12_takeTown_101 (by decide) ?_
        exact ih _ _ _ _ _ I (lv_sub hl [1, 0] rfl) ho (Nat.lt_of_lt_of_le (up_dec c_3) (Nat.le_of_lt_succ hm)) (hE.trans (rfl))
      · skip
        have hE := ite_f hE c_4
        have ho := ite_fP ho c_4
        refine lv_aload_n X.1 X.2.1 dX12_takeTown_87 rfl (lv_at hl 0 rfl) ?_
        refine g12_19 X I (k := 123) (by decide) rfl lf_X12_46 dX12_takeTown_88 ?_
        refine lv_iload_n X.1 X.2.1 dX12_takeTown_91 rfl (lv_at hl 1 rfl) ?_
        have ho4 := ho.1
        have ho := ho.2
        refine r_ald X I (k := 136) (n := 5) (by decide) rfl ho4 dX12_takeTown_92 ?_
        refine lv_goto (tgt := 97) X.1 X.2.1 dX12_takeTown_93 (by decide) ?_
        have ho5 := ho.1
        have ho := ho.2
        refine r_ast X I (k := 139) (n := 5) (by decide) rfl ho5 dX12_takeTown_97 (fun H locs I => ?_)
        refine lv_iinc (v := _ + 1) (lv' := [(1, .int _), (0, .ref _)]) X.1 X.2.1 dX12_takeTown_98 hl (k := 1) rfl rfl (by decide) rfl (fun ls hl => ?_)
        refine lv_goto (tgt := 69) X.1 X.2.1 dX12_takeTown_101 (by decide) ?_
        exact ih _ _ _ _ _ I (lv_sub hl [1, 0] rfl) ho (Nat.lt_of_lt_of_le (up_dec c_3) (Nat.le_of_lt_succ hm)) (hE.trans (rfl))
set_option maxHeartbeats 4000000 in
set_option maxRecDepth 100000 in
theorem c12_takeTown_c106 {l : Launch} {p : Program} {e : Env} {s : State} {m : MethodId} {args : Array Value} {below : List Frame} {meth : Method} {c : Code} {G : GT} (X : CX p s m args meth c cX12_takeTown RX12 2 (some .int) G) {E : Int32 × SI} (τ : SL) {oK : Int32 → SI → Prop} {K : Int32 → SI → (Int32 × SI)} (hK : ∀ (v1 : Int32) (σ : SI) (H : Heap) (locs : List Loc) (ls : Array Slot), IX G s H locs σ τ → lv_has ls 2 [(0, .ref (G.2.1 123)), (1, .int v1)] → oK v1 σ → E = K v1 σ → W p l e (rmN 1) s m args below meth c H locs 0 0 (MQ below ((Qi G (Ei E.1 E.2 τ)) s.heap.size) args s 0 0 (AW G s.heap.size)) (F0 m 126 ls [])) : ∀ (fu : Nat) (v1 : Int32) (σ : SI) (H : Heap) (locs : List Loc) (ls : Array Slot), IX G s H locs σ τ → lv_has ls 2 [(0, .ref (G.2.1 123)), (1, .int v1)] → (o12_takeTown_c106 oK fu v1 σ) → (Int32.toInt (255 : Int32) - Int32.toInt v1).toNat < fu → E = (f12_takeTown_c106 K fu v1 σ) → W p l e (rmN 1) s m args below meth c H locs 0 0 (MQ below ((Qi G (Ei E.1 E.2 τ)) s.heap.size) args s 0 0 (AW G s.heap.size)) (F0 m 106 ls []) := by
  intro fu
  induction fu with
  | zero =>
    intro v1 σ H locs ls I hl  ho hm hE
    exact absurd hm (Nat.not_lt_zero _)
  | succ fu ih =>
    intro v1 σ H locs ls I hl  ho hm hE
    unfold o12_takeTown_c106 at ho
    refine lv_iload_n X.1 X.2.1 dX12_takeTown_106 rfl (lv_at hl 1 rfl) ?_
    refine lv_sipush (v := 255) X.1 X.2.1 dX12_takeTown_107 (by decide) ?_
    refine lv_icmp_ge (tgt := 126) X.1 X.2.1 dX12_takeTown_110 (by decide) (fun c_5 => ?_) (fun c_5 => ?_)
    · skip
      have hE := ite_t hE c_5
      have ho := ite_tP ho c_5
      exact hK _ _ _ _ _ I (lv_sub hl [0, 1] rfl) ho (hE.trans (rfl))
    · skip
      have hE := ite_f hE c_5
      have ho := ite_fP ho c_5
      refine lv_aload_n X.1 X.2.1 dX12_takeTown_113 rfl (lv_at hl 0 rfl) ?_
      refine g12_27 X I (k := 123) (by decide) rfl lf_X12_58 dX12_takeTown_114 ?_
      refine lv_iload_n X.1 X.2.1 dX12_takeTown_117 rfl (lv_at hl 1 rfl) ?_
      refine lv_iconst (v := 0) X.1 X.2.1 dX12_takeTown_118 (by decide) ?_
      have ho6 := ho.1
      have ho := ho.2
      refine r_ast X I (k := 140) (n := 255) (by decide) rfl ho6 dX12_takeTown_119 (fun H locs I => ?_)
      refine lv_iinc (v := _ + 1) (lv' := [(1, .int _), (0, .ref _)]) X.1 X.2.1 dX12_takeTown_120 hl (k := 1) rfl rfl (by decide) rfl (fun ls hl => ?_)
      refine lv_goto (tgt := 106) X.1 X.2.1 dX12_takeTown_123 (by decide) ?_
      exact ih _ _ _ _ _ I (lv_sub hl [1, 0] rfl) ho (Nat.lt_of_lt_of_le (up_dec c_5) (Nat.le_of_lt_succ hm)) (hE.trans (rfl))
set_option maxHeartbeats 4000000 in
set_option maxRecDepth 100000 in
theorem c12_takeTown_c128 {l : Launch} {p : Program} {e : Env} {s : State} {m : MethodId} {args : Array Value} {below : List Frame} {meth : Method} {c : Code} {G : GT} (X : CX p s m args meth c cX12_takeTown RX12 2 (some .int) G) {E : Int32 × SI} (τ : SL) {oK : Int32 → SI → Prop} {K : Int32 → SI → (Int32 × SI)} (hK : ∀ (v1 : Int32) (σ : SI) (H : Heap) (locs : List Loc) (ls : Array Slot), IX G s H locs σ τ → lv_has ls 2 [(0, .ref (G.2.1 123)), (1, .int v1)] → oK v1 σ → E = K v1 σ → W p l e (rmN 1) s m args below meth c H locs 0 0 (MQ below ((Qi G (Ei E.1 E.2 τ)) s.heap.size) args s 0 0 (AW G s.heap.size)) (F0 m 156 ls [])) : ∀ (fu : Nat) (v1 : Int32) (σ : SI) (H : Heap) (locs : List Loc) (ls : Array Slot), IX G s H locs σ τ → lv_has ls 2 [(0, .ref (G.2.1 123)), (1, .int v1)] → (o12_takeTown_c128 oK fu v1 σ) → (Int32.toInt (σ 123 25) - Int32.toInt v1).toNat < fu → E = (f12_takeTown_c128 K fu v1 σ) → W p l e (rmN 1) s m args below meth c H locs 0 0 (MQ below ((Qi G (Ei E.1 E.2 τ)) s.heap.size) args s 0 0 (AW G s.heap.size)) (F0 m 128 ls []) := by
  intro fu
  induction fu with
  | zero =>
    intro v1 σ H locs ls I hl  ho hm hE
    exact absurd hm (Nat.not_lt_zero _)
  | succ fu ih =>
    intro v1 σ H locs ls I hl  ho hm hE
    unfold o12_takeTown_c128 at ho
    refine lv_iload_n X.1 X.2.1 dX12_takeTown_128 rfl (lv_at hl 1 rfl) ?_
    refine lv_aload_n X.1 X.2.1 dX12_takeTown_129 rfl (lv_at hl 0 rfl) ?_
    refine g12_25 X I (k := 123) (by decide) rfl lf_X12_264 dX12_takeTown_130 ?_
    refine lv_icmp_ge (tgt := 156) X.1 X.2.1 dX12_takeTown_133 (by decide) (fun c_6 => ?_) (fun c_6 => ?_)
    · skip
      have hE := ite_t hE c_6
      have ho := ite_tP ho c_6
      exact hK _ _ _ _ _ I (lv_sub hl [0, 1] rfl) ho (hE.trans (rfl))
    · skip
      have hE := ite_f hE c_6
      have ho := ite_fP ho c_6
      refine lv_aload_n X.1 X.2.1 dX12_takeTown_136 rfl (lv_at hl 0 rfl) ?_
      refine g12_27 X I (k := 123) (by decide) rfl lf_X12_58 dX12_takeTown_137 ?_
      refine lv_iconst (v := 0) X.1 X.2.1 dX12_takeTown_140 (by decide) ?_
      refine lv_iload_n X.1 X.2.1 dX12_takeTown_141 rfl (lv_at hl 1 rfl) ?_
      refine lv_iadd X.1 X.2.1 dX12_takeTown_142 ?_
      refine lv_aload_n X.1 X.2.1 dX12_takeTown_143 rfl (lv_at hl 0 rfl) ?_
      refine lv_iload_n X.1 X.2.1 dX12_takeTown_144 rfl (lv_at hl 1 rfl) ?_
      refine lv_iconst (v := 2) X.1 X.2.1 dX12_takeTown_145 (by decide) ?_
      have ho7 := ho.1
      have ho := ho.2
      refine r_ei I (r_runV X I pk_X12_of (c12_of l G _ _ _ _ ho7) lm_X12_270 (by decide) (cl_12 rfl) rfl rfl rfl hl.1 rfl (Nat.le_of_ble_eq_true rfl) dX12_takeTown_146 ⟨Nat.le_of_ble_eq_true rfl, Nat.le_of_ble_eq_true rfl⟩ ⟨Nat.le_refl 0, Nat.le_refl 0⟩) (fun H locs I => ?_)
      have ho8 := ho.1
      have ho := ho.2
      refine r_ast X I (k := 140) (n := 255) (by decide) rfl ho8 dX12_takeTown_149 (fun H locs I => ?_)
      refine lv_iinc (v := _ + 1) (lv' := [(1, .int _), (0, .ref _)]) X.1 X.2.1 dX12_takeTown_150 hl (k := 1) rfl rfl (by decide) rfl (fun ls hl => ?_)
      refine lv_goto (tgt := 128) X.1 X.2.1 dX12_takeTown_153 (by decide) ?_
      exact ih _ _ _ _ _ I (lv_sub hl [1, 0] rfl) ho (Nat.lt_of_lt_of_le (dec_c (by first | with_reducible rfl | simp [sp_n]) (up_dec c_6)) (Nat.le_of_lt_succ hm)) (hE.trans (rfl))
set_option maxHeartbeats 4000000 in
set_option maxRecDepth 100000 in
theorem c12_takeTown_c18 {l : Launch} {p : Program} {e : Env} {s : State} {m : MethodId} {args : Array Value} {below : List Frame} {meth : Method} {c : Code} {G : GT} (X : CX p s m args meth c cX12_takeTown RX12 2 (some .int) G) {E : Int32 × SI} (τ : SL) : ∀ (fu : Nat) (v1 : Int32) (σ : SI) (H : Heap) (locs : List Loc) (ls : Array Slot), IX G s H locs σ τ → lv_has ls 2 [(0, .ref (G.2.1 123)), (1, .int v1)] → (o12_takeTown_c18 fu v1 σ) → (Int32.toInt (3 : Int32) - Int32.toInt v1).toNat < fu → E = (f12_takeTown_c18 fu v1 σ) → W p l e (rmN 1) s m args below meth c H locs 0 0 (MQ below ((Qi G (Ei E.1 E.2 τ)) s.heap.size) args s 0 0 (AW G s.heap.size)) (F0 m 18 ls []) := by
  intro fu
  induction fu with
  | zero =>
    intro v1 σ H locs ls I hl  ho hm hE
    exact absurd hm (Nat.not_lt_zero _)
  | succ fu ih =>
    intro v1 σ H locs ls I hl  ho hm hE
    unfold o12_takeTown_c18 at ho
    refine lv_iload_n X.1 X.2.1 dX12_takeTown_18 rfl (lv_at hl 1 rfl) ?_
    refine lv_iconst (v := 3) X.1 X.2.1 dX12_takeTown_19 (by decide) ?_
    refine lv_icmp_ge (tgt := 41) X.1 X.2.1 dX12_takeTown_20 (by decide) (fun c_1 => ?_) (fun c_1 => ?_)
    · skip
      have hE := ite_t hE c_1
      have ho := ite_tP ho c_1
      refine lv_iconst (v := 0) X.1 X.2.1 dX12_takeTown_41 (by decide) ?_
      refine lv_istore_n (lv' := [(1, .int _), (0, .ref _)]) X.1 X.2.1 dX12_takeTown_42 rfl hl (by decide) rfl (fun ls hl => ?_)
      refine c12_takeTown_c43 X _  (fun y1_1 σk1 H locs ls I hl ho hE => ?_) _ _ _ _ _ _ I (lv_sub hl [1, 0] rfl) ho (fu1_lt _) (hE.trans (rfl))
      refine lv_iconst (v := 0) X.1 X.2.1 dX12_takeTown_67 (by decide) ?_
      refine lv_istore_n (lv' := [(1, .int _), (0, .ref _)]) X.1 X.2.1 dX12_takeTown_68 rfl hl (by decide) rfl (fun ls hl => ?_)
      refine c12_takeTown_c69 X _  (fun y2_1 σk2 H locs ls I hl ho hE => ?_) _ _ _ _ _ _ I (lv_sub hl [1, 0] rfl) ho (fu1_lt _) (hE.trans (rfl))
      refine lv_iconst (v := 0) X.1 X.2.1 dX12_takeTown_104 (by decide) ?_
      refine lv_istore_n (lv' := [(1, .int _), (0, .ref _)]) X.1 X.2.1 dX12_takeTown_105 rfl hl (by decide) rfl (fun ls hl => ?_)
      refine c12_takeTown_c106 X _  (fun y3_1 σk3 H locs ls I hl ho hE => ?_) _ _ _ _ _ _ I (lv_sub hl [1, 0] rfl) ho (fu1_lt _) (hE.trans (rfl))
      refine lv_iconst (v := 0) X.1 X.2.1 dX12_takeTown_126 (by decide) ?_
      refine lv_istore_n (lv' := [(1, .int _), (0, .ref _)]) X.1 X.2.1 dX12_takeTown_127 rfl hl (by decide) rfl (fun ls hl => ?_)
      refine c12_takeTown_c128 X _  (fun y4_1 σk4 H locs ls I hl ho hE => ?_) _ _ _ _ _ _ I (lv_sub hl [1, 0] rfl) ho (fu1_lt _) (hE.trans (rfl))
      refine lv_aload_n X.1 X.2.1 dX12_takeTown_156 rfl (lv_at hl 0 rfl) ?_
      refine g12_27 X I (k := 123) (by decide) rfl lf_X12_58 dX12_takeTown_157 ?_
      refine lv_bipush (v := 7) X.1 X.2.1 dX12_takeTown_160 (by decide) ?_
      refine lv_aload_n X.1 X.2.1 dX12_takeTown_162 rfl (lv_at hl 0 rfl) ?_
      refine g12_22 X I (k := 123) (by decide) rfl lf_X12_49 dX12_takeTown_163 ?_
      refine lv_iconst (v := 1) X.1 X.2.1 dX12_takeTown_166 (by decide) ?_
      refine r_ald X I (k := 137) (n := 3) (by decide) rfl (by unfold vp_in; decide) dX12_takeTown_167 ?_
      refine r_ast X I (k := 140) (n := 255) (by decide) rfl (by unfold vp_in; decide) dX12_takeTown_168 (fun H locs I => ?_)
      refine lv_aload_n X.1 X.2.1 dX12_takeTown_169 rfl (lv_at hl 0 rfl) ?_
      refine g12_27 X I (k := 123) (by decide) rfl lf_X12_58 dX12_takeTown_170 ?_
      refine lv_bipush (v := 10) X.1 X.2.1 dX12_takeTown_173 (by decide) ?_
      refine lv_iconst (v := (-1)) X.1 X.2.1 dX12_takeTown_175 (by decide) ?_
      refine r_ast X I (k := 140) (n := 255) (by decide) rfl (by unfold vp_in; decide) dX12_takeTown_176 (fun H locs I => ?_)
      refine lv_aload_n X.1 X.2.1 dX12_takeTown_177 rfl (lv_at hl 0 rfl) ?_
      refine lv_iconst (v := 0) X.1 X.2.1 dX12_takeTown_178 (by decide) ?_
      refine p12_43 X I (k := 123) (by decide) rfl lf_X12_273 dX12_takeTown_179 (fun H locs I => ?_)
      refine lv_aload_n X.1 X.2.1 dX12_takeTown_182 rfl (lv_at hl 0 rfl) ?_
      refine lv_iconst (v := 0) X.1 X.2.1 dX12_takeTown_183 (by decide) ?_
      refine p12_48 X I (k := 123) (by decide) rfl lf_X12_276 dX12_takeTown_184 (fun H locs I => ?_)
      refine lv_aload_n X.1 X.2.1 dX12_takeTown_187 rfl (lv_at hl 0 rfl) ?_
      refine lv_iconst (v := 0) X.1 X.2.1 dX12_takeTown_188 (by decide) ?_
      refine p12_32 X I (k := 123) (by decide) rfl lf_X12_279 dX12_takeTown_189 (fun H locs I => ?_)
      refine lv_aload_n X.1 X.2.1 dX12_takeTown_192 rfl (lv_at hl 0 rfl) ?_
      refine lv_iconst (v := 0) X.1 X.2.1 dX12_takeTown_193 (by decide) ?_
      refine p12_50 X I (k := 123) (by decide) rfl lf_X12_282 rfl rfl dX12_takeTown_194 (fun H locs I => ?_)
      refine lv_aload_n X.1 X.2.1 dX12_takeTown_197 rfl (lv_at hl 0 rfl) ?_
      refine g12_25 X I (k := 123) (by decide) rfl lf_X12_264 dX12_takeTown_198 ?_
      have h9 := hE
      exact r_iret X I (e_i (pr_fst h9) (pr_snd h9) rfl) dX12_takeTown_201
    · skip
      have hE := ite_f hE c_1
      have ho := ite_fP ho c_1
      refine lv_aload_n X.1 X.2.1 dX12_takeTown_23 rfl (lv_at hl 0 rfl) ?_
      refine g12_22 X I (k := 123) (by decide) rfl lf_X12_49 dX12_takeTown_24 ?_
      refine lv_iload_n X.1 X.2.1 dX12_takeTown_27 rfl (lv_at hl 1 rfl) ?_
      refine lv_aload_n X.1 X.2.1 dX12_takeTown_28 rfl (lv_at hl 0 rfl) ?_
      refine g12_17 X I (k := 123) (by decide) rfl lf_X12_40 dX12_takeTown_29 ?_
      refine lv_iload_n X.1 X.2.1 dX12_takeTown_32 rfl (lv_at hl 1 rfl) ?_
      have ho9 := ho.1
      have ho := ho.2
      refine r_ald X I (k := 134) (n := 3) (by decide) rfl ho9 dX12_takeTown_33 ?_
      have ho10 := ho.1
      have ho := ho.2
      refine r_ast X I (k := 137) (n := 3) (by decide) rfl ho10 dX12_takeTown_34 (fun H locs I => ?_)
      refine lv_iinc (v := _ + 1) (lv' := [(1, .int _), (0, .ref _)]) X.1 X.2.1 dX12_takeTown_35 hl (k := 1) rfl rfl (by decide) rfl (fun ls hl => ?_)
      refine lv_goto (tgt := 18) X.1 X.2.1 dX12_takeTown_38 (by decide) ?_
      exact ih _ _ _ _ _ I (lv_sub hl [1, 0] rfl) ho (Nat.lt_of_lt_of_le (up_dec c_1) (Nat.le_of_lt_succ hm)) (hE.trans (rfl))
set_option maxHeartbeats 4000000 in
set_option maxRecDepth 100000 in
theorem c12_takeTown (l : Launch) (G : GT) (σ : SI) (τ : SL) (ho : o12_takeTown σ) : Mc l yX12_takeTown cX12_takeTown 2 (some .int) 1 G [.ref (G.2.1 123)] σ τ (Qi G (Ei (f12_takeTown σ).1 (f12_takeTown σ).2 τ)) := by
  refine m_start (by decide +kernel) (Nat.le_of_ble_eq_true rfl) rfl (fun p e s m args below meth c ls X I hl => ?_)
  have hl : lv_has ls 2 [(0, .ref (G.2.1 123))] := hl
  obtain ⟨E, hE⟩ : ∃ E, E = (f12_takeTown σ) := ⟨_, rfl⟩
  rw [← hE]
  unfold o12_takeTown at ho
  refine lv_aload_n X.1 X.2.1 dX12_takeTown_0 rfl (lv_at hl 0 rfl) ?_
  refine lv_aload_n X.1 X.2.1 dX12_takeTown_1 rfl (lv_at hl 0 rfl) ?_
  refine g12_20 X I (k := 123) (by decide) rfl lf_X12_244 dX12_takeTown_2 ?_
  refine p12_25 X I (k := 123) (by decide) rfl lf_X12_264 dX12_takeTown_5 (fun H locs I => ?_)
  refine lv_aload_n X.1 X.2.1 dX12_takeTown_8 rfl (lv_at hl 0 rfl) ?_
  refine lv_aload_n X.1 X.2.1 dX12_takeTown_9 rfl (lv_at hl 0 rfl) ?_
  refine g12_21 X I (k := 123) (by decide) rfl lf_X12_247 dX12_takeTown_10 ?_
  refine p12_26 X I (k := 123) (by decide) rfl lf_X12_267 dX12_takeTown_13 (fun H locs I => ?_)
  refine lv_iconst (v := 0) X.1 X.2.1 dX12_takeTown_16 (by decide) ?_
  refine lv_istore_n (lv' := [(1, .int _), (0, .ref _)]) X.1 X.2.1 dX12_takeTown_17 rfl hl (by decide) rfl (fun ls hl => ?_)
  exact c12_takeTown_c18 X _  _ _ _ _ _ _ I (lv_sub hl [1, 0] rfl) ho (fu1_lt _) (hE.trans (rfl))
