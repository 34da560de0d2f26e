noncomputable def f12_who_c29 (x1 : Int32) (x2 : Int32) : Nat → Int32 → Int32 → SI → (Int32 × SI)
  | 0, _, _, σ => (0, σ)
  | fu + 1, v3, v4, σ => if (9 : Int32) < v4 then (if x2 = (-1 : Int32) then (v3, σ) else ((-1 : Int32), σ)) else (let r0 := (f12_isSo σ v4 x1); if r0.1 = true then (if v3 = x2 then (v4, r0.2) else (f12_who_c29 x1 x2 fu (v3 + 1) (v4 + 1) r0.2)) else (f12_who_c29 x1 x2 fu v3 (v4 + 1) r0.2))
noncomputable def o12_who_c29 (x1 : Int32) (x2 : Int32) : Nat → Int32 → Int32 → SI → Prop
  | 0, _, _, _ => True
  | fu + 1, v3, v4, σ => if (9 : Int32) < v4 then (if x2 = (-1 : Int32) then True else True) else ((o12_isSo σ v4 x1) ∧ (let r0 := (f12_isSo σ v4 x1); if r0.1 = true then (if v3 = x2 then True else (o12_who_c29 x1 x2 fu (v3 + 1) (v4 + 1) r0.2)) else (o12_who_c29 x1 x2 fu v3 (v4 + 1) r0.2)))
noncomputable def f12_who (σ : SI) (x1 : Int32) (x2 : Int32) : Int32 × SI := if (σ 123 25) = (0 : Int32) then ((-1 : Int32), σ) else (if (f12_in x1 (1 : Int32) (9 : Int32)) = true then (if (-1 : Int32) ≤ x2 then (f12_who_c29 x1 x2 (fu1 ((Int32.toInt (9 : Int32) + 1 - Int32.toInt (0 : Int32)).toNat)) (0 : Int32) (0 : Int32) σ) else ((-1 : Int32), σ)) else ((-1 : Int32), σ))
noncomputable def o12_who (σ : SI) (x1 : Int32) (x2 : Int32) : Prop := if (σ 123 25) = (0 : Int32) then True else (if (f12_in x1 (1 : Int32) (9 : Int32)) = true then (if (-1 : Int32) ≤ x2 then (o12_who_c29 x1 x2 (fu1 ((Int32.toInt (9 : Int32) + 1 - Int32.toInt (0 : Int32)).toNat)) (0 : Int32) (0 : Int32) σ) else True) else True)
theorem w_f12_who_c29 (x1 : Int32) (x2 : Int32) (a : Nat) (h0 : a ≠ 138) (h1 : a ≠ 144) : ∀ (fu : Nat) (v3 : Int32) (v4 : Int32) (σ : SI), (f12_who_c29 x1 x2 fu v3 v4 σ).2 a = σ a := by
  intro fu
  induction fu with
  | zero => intro v3 v4 σ; exact rfl
  | succ fu ih =>
    intro v3 v4 σ
    refine fp_to2 ?_
    unfold f12_who_c29
    exact (fr_ite2 (fr_ite2 (fr_mk21 rfl) (fr_mk21 rfl)) (fr_ite2 (fr_ite2 (fr_mk21 (w_f12_isSo _ _ _ a h0 h1)) (fp_of2 (((ih _ _ _).trans (w_f12_isSo _ _ _ a h0 h1))))) (fp_of2 (((ih _ _ _).trans (w_f12_isSo _ _ _ a h0 h1))))))
theorem w_f12_who (σ : SI) (x1 : Int32) (x2 : Int32) (a : Nat) (h0 : a ≠ 138) (h1 : a ≠ 144) : (f12_who σ x1 x2).2 a = σ a := by
  refine fp_to2 ?_
  unfold f12_who
  exact (fr_ite2 (fr_mk21 rfl) (fr_ite2 (fr_ite2 (fp_of2 ((w_f12_who_c29 _ _ a h0 h1 _ _ _ _))) (fr_mk21 rfl)) (fr_mk21 rfl)))
set_option maxHeartbeats 4000000 in
set_option maxRecDepth 100000 in
theorem c12_who_c29 {l : Launch} {p : Program} {e : Env} {s : State} {m : MethodId} {args : Array Value} {below : List Frame} {meth : Method} {c : Code} {G : GT} (X : CX p s m args meth c cX12_who RX12 5 (some .int) G) {E : Int32 × SI} (τ : SL) (x1 : Int32) (x2 : Int32) : ∀ (fu : Nat) (v3 : Int32) (v4 : Int32) (σ : SI) (H : Heap) (locs : List Loc) (ls : Array Slot), IX G s H locs σ τ → lv_has ls 5 [(0, .ref (G.2.1 123)), (1, .int x1), (2, .int x2), (3, .int v3), (4, .int v4)] → (o12_who_c29 x1 x2 fu v3 v4 σ) → (Int32.toInt (9 : Int32) + 1 - Int32.toInt v4).toNat < fu → E = (f12_who_c29 x1 x2 fu v3 v4 σ) → W p l e (rmN 4) s m args below meth c H locs 0 0 (MQ below ((Qi G (Ei E.1 E.2 τ)) s.heap.size) args s 0 0 (AW G s.heap.size)) (F0 m 29 ls []) := by
  intro fu
  induction fu with
  | zero =>
    intro v3 v4 σ H locs ls I hl  ho hm hE
    exact absurd hm (Nat.not_lt_zero _)
  | succ fu ih =>
    intro v3 v4 σ H locs ls I hl  ho hm hE
    unfold o12_who_c29 at ho
    refine lv_iload X.1 X.2.1 dX12_who_29 (lv_at hl 4 rfl) ?_
    refine lv_bipush (v := 9) X.1 X.2.1 dX12_who_31 (by decide) ?_
    refine lv_icmp_gt (tgt := 63) X.1 X.2.1 dX12_who_33 (by decide) (fun c_4 => ?_) (fun c_4 => ?_)
    · skip
      have hE := ite_t hE c_4
      have ho := ite_tP ho c_4
      refine lv_iload_n X.1 X.2.1 dX12_who_63 rfl (lv_at hl 2 rfl) ?_
      refine lv_iconst (v := (-1)) X.1 X.2.1 dX12_who_64 (by decide) ?_
      refine lv_icmp_ne (tgt := 72) X.1 X.2.1 dX12_who_65 (by decide) (fun c_5 => ?_) (fun c_5 => ?_)
      · skip
        have hE := ite_f hE c_5
        have ho := ite_fP ho c_5
        refine lv_iconst (v := (-1)) X.1 X.2.1 dX12_who_72 (by decide) ?_
        have h9 := hE
        exact r_iret X I (e_i (pr_fst h9) (pr_snd h9) rfl) dX12_who_73
      · skip
        have hE := ite_t hE c_5
        have ho := ite_tP ho c_5
        refine lv_iload_n X.1 X.2.1 dX12_who_68 rfl (lv_at hl 3 rfl) ?_
        refine lv_goto (tgt := 73) X.1 X.2.1 dX12_who_69 (by decide) ?_
        have h9 := hE
        exact r_iret X I (e_i (pr_fst h9) (pr_snd h9) rfl) dX12_who_73
    · skip
      have hE := ite_f hE c_4
      have ho := ite_fP ho c_4
      refine lv_aload_n X.1 X.2.1 dX12_who_36 rfl (lv_at hl 0 rfl) ?_
      refine lv_iload X.1 X.2.1 dX12_who_37 (lv_at hl 4 rfl) ?_
      refine lv_iload_n X.1 X.2.1 dX12_who_39 rfl (lv_at hl 1 rfl) ?_
      have ho1 := ho.1
      have ho := ho.2
      refine r_ei I (r_runV X I pk_X12_isSo (c12_isSo l G _ _ _ _ ho1) lm_X12_429 (by decide) (cl_12 rfl) rfl rfl rfl hl.1 rfl (Nat.le_of_ble_eq_true rfl) dX12_who_40 ⟨Nat.le_of_ble_eq_true rfl, Nat.le_of_ble_eq_true rfl⟩ ⟨Nat.le_refl 0, Nat.le_refl 0⟩) (fun H locs I => ?_)
      refine lv_if_eq (tgt := 57) X.1 X.2.1 dX12_who_43 (by decide) (fun c_6 => ?_) (fun c_6 => ?_)
      · skip
        have hE := ite_f hE (b2i_n c_6)
        have ho := ite_fP ho (b2i_n c_6)
        refine lv_iinc (v := _ + 1) (lv' := [(4, .int _), (0, .ref _), (1, .int _), (2, .int _), (3, .int _)]) X.1 X.2.1 dX12_who_57 hl (k := 4) rfl rfl (by decide) rfl (fun ls hl => ?_)
        refine lv_goto (tgt := 29) X.1 X.2.1 dX12_who_60 (by decide) ?_
        exact ih _ _ _ _ _ _ I (lv_sub hl [1, 2, 3, 4, 0] rfl) ho (Nat.lt_of_lt_of_le (up_decE (by decide) c_4) (Nat.le_of_lt_succ hm)) (hE.trans (rfl))
      · skip
        have hE := ite_t hE (b2i_y c_6)
        have ho := ite_tP ho (b2i_y c_6)
        refine lv_iload_n X.1 X.2.1 dX12_who_46 rfl (lv_at hl 3 rfl) ?_
        refine lv_iload_n X.1 X.2.1 dX12_who_47 rfl (lv_at hl 2 rfl) ?_
        refine lv_icmp_ne (tgt := 54) X.1 X.2.1 dX12_who_48 (by decide) (fun c_7 => ?_) (fun c_7 => ?_)
        · skip
          have hE := ite_f hE c_7
          have ho := ite_fP ho c_7
          refine lv_iinc (v := _ + 1) (lv' := [(3, .int _), (0, .ref _), (1, .int _), (2, .int _), (4, .int _)]) X.1 X.2.1 dX12_who_54 hl (k := 3) rfl rfl (by decide) rfl (fun ls hl => ?_)
          refine lv_iinc (v := _ + 1) (lv' := [(4, .int _), (3, .int _), (0, .ref _), (1, .int _), (2, .int _)]) X.1 X.2.1 dX12_who_57 hl (k := 4) rfl rfl (by decide) rfl (fun ls hl => ?_)
          refine lv_goto (tgt := 29) X.1 X.2.1 dX12_who_60 (by decide) ?_
          exact ih _ _ _ _ _ _ I (lv_sub hl [2, 3, 4, 1, 0] rfl) ho (Nat.lt_of_lt_of_le (up_decE (by decide) c_4) (Nat.le_of_lt_succ hm)) (hE.trans (rfl))
        · skip
          have hE := ite_t hE c_7
          have ho := ite_tP ho c_7
          refine lv_iload X.1 X.2.1 dX12_who_51 (lv_at hl 4 rfl) ?_
          have h9 := hE
          exact r_iret X I (e_i (pr_fst h9) (pr_snd h9) rfl) dX12_who_53
set_option maxHeartbeats 4000000 in
set_option maxRecDepth 100000 in
theorem c12_who (l : Launch) (G : GT) (σ : SI) (τ : SL) (x1 : Int32) (x2 : Int32) (ho : o12_who σ x1 x2) : Mc l yX12_who cX12_who 5 (some .int) 4 G [.ref (G.2.1 123), .int x1, .int x2] σ τ (Qi G (Ei (f12_who σ x1 x2).1 (f12_who σ x1 x2).2 τ)) := by
  refine m_start (by decide +kernel) (Nat.le_of_ble_eq_true rfl) rfl (fun p e s m args below meth c ls X I hl => ?_)
  have hl : lv_has ls 5 [(0, .ref (G.2.1 123)), (1, .int x1), (2, .int x2)] := hl
  obtain ⟨E, hE⟩ : ∃ E, E = (f12_who σ x1 x2) := ⟨_, rfl⟩
  rw [← hE]
  unfold o12_who at ho
  refine lv_aload_n X.1 X.2.1 dX12_who_0 rfl (lv_at hl 0 rfl) ?_
  refine g12_25 X I (k := 123) (by decide) rfl lf_X12_264 dX12_who_1 ?_
  refine lv_if_eq (tgt := 22) X.1 X.2.1 dX12_who_4 (by decide) (fun c_1 => ?_) (fun c_1 => ?_)
  · skip
    have hE := ite_t hE c_1
    have ho := ite_tP ho c_1
    refine lv_iconst (v := (-1)) X.1 X.2.1 dX12_who_22 (by decide) ?_
    have h9 := hE
    exact r_iret X I (e_i (pr_fst h9) (pr_snd h9) rfl) dX12_who_23
  · skip
    have hE := ite_f hE c_1
    have ho := ite_fP ho c_1
    refine lv_iload_n X.1 X.2.1 dX12_who_7 rfl (lv_at hl 1 rfl) ?_
    refine lv_iconst (v := 1) X.1 X.2.1 dX12_who_8 (by decide) ?_
    refine lv_bipush (v := 9) X.1 X.2.1 dX12_who_9 (by decide) ?_
    refine r_ei I (r_runS X I pk_X12_in (c12_in l G _ _ _ _ _) lm_X12_220 rfl hl.1 rfl (Nat.le_of_ble_eq_true rfl) dX12_who_11 ⟨Nat.le_of_ble_eq_true rfl, Nat.le_of_ble_eq_true rfl⟩ ⟨Nat.le_refl 0, Nat.le_refl 0⟩) (fun H locs I => ?_)
    refine lv_if_eq (tgt := 22) X.1 X.2.1 dX12_who_14 (by decide) (fun c_2 => ?_) (fun c_2 => ?_)
    · skip
      have hE := ite_f hE (b2i_n c_2)
      have ho := ite_fP ho (b2i_n c_2)
      refine lv_iconst (v := (-1)) X.1 X.2.1 dX12_who_22 (by decide) ?_
      have h9 := hE
      exact r_iret X I (e_i (pr_fst h9) (pr_snd h9) rfl) dX12_who_23
    · skip
      have hE := ite_t hE (b2i_y c_2)
      have ho := ite_tP ho (b2i_y c_2)
      refine lv_iload_n X.1 X.2.1 dX12_who_17 rfl (lv_at hl 2 rfl) ?_
      refine lv_iconst (v := (-1)) X.1 X.2.1 dX12_who_18 (by decide) ?_
      refine lv_icmp_ge (tgt := 24) X.1 X.2.1 dX12_who_19 (by decide) (fun c_3 => ?_) (fun c_3 => ?_)
      · skip
        have hE := ite_t hE c_3
        have ho := ite_tP ho c_3
        refine lv_iconst (v := 0) X.1 X.2.1 dX12_who_24 (by decide) ?_
        refine lv_istore_n (lv' := [(3, .int _), (0, .ref _), (1, .int _), (2, .int _)]) X.1 X.2.1 dX12_who_25 rfl hl (by decide) rfl (fun ls hl => ?_)
        refine lv_iconst (v := 0) X.1 X.2.1 dX12_who_26 (by decide) ?_
        refine lv_istore (lv' := [(4, .int _), (3, .int _), (0, .ref _), (1, .int _), (2, .int _)]) X.1 X.2.1 dX12_who_27 hl (by decide) rfl (fun ls hl => ?_)
        exact c12_who_c29 X _ _ _ _ _ _ _ _ _ _ I (lv_sub hl [2, 3, 4, 1, 0] rfl) ho (fu1_lt _) (hE.trans (rfl))
      · skip
        have hE := ite_f hE c_3
        have ho := ite_fP ho c_3
        refine lv_iconst (v := (-1)) X.1 X.2.1 dX12_who_22 (by decide) ?_
        have h9 := hE
        exact r_iret X I (e_i (pr_fst h9) (pr_snd h9) rfl) dX12_who_23
noncomputable def f12_oddsFrom_c40 (T : SI → Int32 → Int32 → Int32 → Int32 → Int32 × SI) (x1 : Int32) (x2 : Int32) (x3 : Int32) (x4 : Int32) (x5 : Int32) (x6 : Int32) : Nat → Int32 → Int32 → SI → (Int32 × SI)
  | 0, _, _, σ => (0, σ)
  | fu + 1, v7, v8, σ => if (2 : Int32) ≤ v8 then (v7, σ) else (if v8 = (1 : Int32) then (let r18 := (f12_standsIf σ x5 (σ 140 (Int32.toNatClampNeg ((0 : Int32) + x5))) ((f12_stepsNow σ x5) / (2 : Int32))); if (r18.2 137 0) < ((((r18.2 140 8) + (f12_stepsNow σ x5)) + ((f12_stepsNow σ x5) / (2 : Int32))) + r18.1) then (f12_oddsFrom_c40 T x1 x2 x3 x4 x5 x6 fu v7 (v8 + 1) r18.2) else (if (f12_isThankful r18.2 x5) = true then (let s27 := sp r18.2 140 (Int32.toNatClampNeg ((0 : Int32) + x5)) ((r18.2 140 (Int32.toNatClampNeg ((0 : Int32) + x5))) - (0 : Int32)); let s28 := sp s27 140 8 ((((r18.2 140 8) + (f12_stepsNow σ x5)) + ((f12_stepsNow σ x5) / (2 : Int32))) + r18.1); let s29 := sp s28 140 10 x5; let s30 := sp s29 140 11 ((s27 140 11) ||| ((1 : Int32) <<< (x5 &&& 31))); if v8 = (1 : Int32) then (let r33 := (T s30 (x1 + (1 : Int32)) x2 x3 x6); let s34 := (f12_takeBack r33.2 x1); (f12_oddsFrom_c40 T x1 x2 x3 x4 x5 x6 fu (v7 + r33.1) (v8 + 1) s34)) else (let r31 := (T s30 (x1 + (1 : Int32)) x2 x3 (x4 - x6)); let s32 := (f12_takeBack r31.2 x1); (f12_oddsFrom_c40 T x1 x2 x3 x4 x5 x6 fu (v7 + r31.1) (v8 + 1) s32))) else (let s19 := sp r18.2 140 (Int32.toNatClampNeg ((0 : Int32) + x5)) ((r18.2 140 (Int32.toNatClampNeg ((0 : Int32) + x5))) - (if r18.1 < (r18.2 140 (Int32.toNatClampNeg ((0 : Int32) + x5))) then r18.1 else (r18.2 140 (Int32.toNatClampNeg ((0 : Int32) + x5))))); let s20 := sp s19 140 8 ((((r18.2 140 8) + (f12_stepsNow σ x5)) + ((f12_stepsNow σ x5) / (2 : Int32))) + r18.1); let s21 := sp s20 140 10 x5; let s22 := sp s21 140 11 ((s19 140 11) ||| ((1 : Int32) <<< (x5 &&& 31))); if v8 = (1 : Int32) then (let r25 := (T s22 (x1 + (1 : Int32)) x2 x3 x6); let s26 := (f12_takeBack r25.2 x1); (f12_oddsFrom_c40 T x1 x2 x3 x4 x5 x6 fu (v7 + r25.1) (v8 + 1) s26)) else (let r23 := (T s22 (x1 + (1 : Int32)) x2 x3 (x4 - x6)); let s24 := (f12_takeBack r23.2 x1); (f12_oddsFrom_c40 T x1 x2 x3 x4 x5 x6 fu (v7 + r23.1) (v8 + 1) s24))))) else (let r1 := (f12_standsIf σ x5 (σ 140 (Int32.toNatClampNeg ((0 : Int32) + x5))) (0 : Int32)); if (r1.2 137 0) < ((((r1.2 140 8) + (f12_stepsNow σ x5)) + (0 : Int32)) + r1.1) then (f12_oddsFrom_c40 T x1 x2 x3 x4 x5 x6 fu v7 (v8 + 1) r1.2) else (if (f12_isThankful r1.2 x5) = true then (let s10 := sp r1.2 140 (Int32.toNatClampNeg ((0 : Int32) + x5)) ((r1.2 140 (Int32.toNatClampNeg ((0 : Int32) + x5))) - (0 : Int32)); let s11 := sp s10 140 8 ((((r1.2 140 8) + (f12_stepsNow σ x5)) + (0 : Int32)) + r1.1); let s12 := sp s11 140 10 x5; let s13 := sp s12 140 11 ((s10 140 11) ||| ((1 : Int32) <<< (x5 &&& 31))); if v8 = (1 : Int32) then (let r16 := (T s13 (x1 + (1 : Int32)) x2 x3 x6); let s17 := (f12_takeBack r16.2 x1); (f12_oddsFrom_c40 T x1 x2 x3 x4 x5 x6 fu (v7 + r16.1) (v8 + 1) s17)) else (let r14 := (T s13 (x1 + (1 : Int32)) x2 x3 (x4 - x6)); let s15 := (f12_takeBack r14.2 x1); (f12_oddsFrom_c40 T x1 x2 x3 x4 x5 x6 fu (v7 + r14.1) (v8 + 1) s15))) else (let s2 := sp r1.2 140 (Int32.toNatClampNeg ((0 : Int32) + x5)) ((r1.2 140 (Int32.toNatClampNeg ((0 : Int32) + x5))) - (if r1.1 < (r1.2 140 (Int32.toNatClampNeg ((0 : Int32) + x5))) then r1.1 else (r1.2 140 (Int32.toNatClampNeg ((0 : Int32) + x5))))); let s3 := sp s2 140 8 ((((r1.2 140 8) + (f12_stepsNow σ x5)) + (0 : Int32)) + r1.1); let s4 := sp s3 140 10 x5; let s5 := sp s4 140 11 ((s2 140 11) ||| ((1 : Int32) <<< (x5 &&& 31))); if v8 = (1 : Int32) then (let r8 := (T s5 (x1 + (1 : Int32)) x2 x3 x6); let s9 := (f12_takeBack r8.2 x1); (f12_oddsFrom_c40 T x1 x2 x3 x4 x5 x6 fu (v7 + r8.1) (v8 + 1) s9)) else (let r6 := (T s5 (x1 + (1 : Int32)) x2 x3 (x4 - x6)); let s7 := (f12_takeBack r6.2 x1); (f12_oddsFrom_c40 T x1 x2 x3 x4 x5 x6 fu (v7 + r6.1) (v8 + 1) s7))))))
noncomputable def o12_oddsFrom_c40 (T : SI → Int32 → Int32 → Int32 → Int32 → Int32 × SI) (oT : SI → Int32 → Int32 → Int32 → Int32 → Prop) (x1 : Int32) (x2 : Int32) (x3 : Int32) (x4 : Int32) (x5 : Int32) (x6 : Int32) : Nat → Int32 → Int32 → SI → Prop
  | 0, _, _, _ => True
  | fu + 1, v7, v8, σ => if (2 : Int32) ≤ v8 then True else ((o12_stepsNow σ x5) ∧ (if v8 = (1 : Int32) then ((vp_in ((0 : Int32) + x5) 255) ∧ ((o12_standsIf σ x5 (σ 140 (Int32.toNatClampNeg ((0 : Int32) + x5))) ((f12_stepsNow σ x5) / (2 : Int32))) ∧ (let r18 := (f12_standsIf σ x5 (σ 140 (Int32.toNatClampNeg ((0 : Int32) + x5))) ((f12_stepsNow σ x5) / (2 : Int32))); if (r18.2 137 0) < ((((r18.2 140 8) + (f12_stepsNow σ x5)) + ((f12_stepsNow σ x5) / (2 : Int32))) + r18.1) then (o12_oddsFrom_c40 T oT x1 x2 x3 x4 x5 x6 fu v7 (v8 + 1) r18.2) else ((vp_in ((0 : Int32) + x5) 255) ∧ ((o12_isThankful r18.2 x5) ∧ (if (f12_isThankful r18.2 x5) = true then ((vp_in ((0 : Int32) + x5) 255) ∧ (let s27 := sp r18.2 140 (Int32.toNatClampNeg ((0 : Int32) + x5)) ((r18.2 140 (Int32.toNatClampNeg ((0 : Int32) + x5))) - (0 : Int32)); let s28 := sp s27 140 8 ((((r18.2 140 8) + (f12_stepsNow σ x5)) + ((f12_stepsNow σ x5) / (2 : Int32))) + r18.1); let s29 := sp s28 140 10 x5; let s30 := sp s29 140 11 ((s27 140 11) ||| ((1 : Int32) <<< (x5 &&& 31))); if v8 = (1 : Int32) then ((oT s30 (x1 + (1 : Int32)) x2 x3 x6) ∧ (let r33 := (T s30 (x1 + (1 : Int32)) x2 x3 x6); (o12_takeBack r33.2 x1) ∧ (let s34 := (f12_takeBack r33.2 x1); (o12_oddsFrom_c40 T oT x1 x2 x3 x4 x5 x6 fu (v7 + r33.1) (v8 + 1) s34)))) else ((oT s30 (x1 + (1 : Int32)) x2 x3 (x4 - x6)) ∧ (let r31 := (T s30 (x1 + (1 : Int32)) x2 x3 (x4 - x6)); (o12_takeBack r31.2 x1) ∧ (let s32 := (f12_takeBack r31.2 x1); (o12_oddsFrom_c40 T oT x1 x2 x3 x4 x5 x6 fu (v7 + r31.1) (v8 + 1) s32)))))) else ((vp_in ((0 : Int32) + x5) 255) ∧ ((vp_in ((0 : Int32) + x5) 255) ∧ (let s19 := sp r18.2 140 (Int32.toNatClampNeg ((0 : Int32) + x5)) ((r18.2 140 (Int32.toNatClampNeg ((0 : Int32) + x5))) - (if r18.1 < (r18.2 140 (Int32.toNatClampNeg ((0 : Int32) + x5))) then r18.1 else (r18.2 140 (Int32.toNatClampNeg ((0 : Int32) + x5))))); let s20 := sp s19 140 8 ((((r18.2 140 8) + (f12_stepsNow σ x5)) + ((f12_stepsNow σ x5) / (2 : Int32))) + r18.1); let s21 := sp s20 140 10 x5; let s22 := sp s21 140 11 ((s19 140 11) ||| ((1 : Int32) <<< (x5 &&& 31))); if v8 = (1 : Int32) then ((oT s22 (x1 + (1 : Int32)) x2 x3 x6) ∧ (let r25 := (T s22 (x1 + (1 : Int32)) x2 x3 x6); (o12_takeBack r25.2 x1) ∧ (let s26 := (f12_takeBack r25.2 x1); (o12_oddsFrom_c40 T oT x1 x2 x3 x4 x5 x6 fu (v7 + r25.1) (v8 + 1) s26)))) else ((oT s22 (x1 + (1 : Int32)) x2 x3 (x4 - x6)) ∧ (let r23 := (T s22 (x1 + (1 : Int32)) x2 x3 (x4 - x6)); (o12_takeBack r23.2 x1) ∧ (let s24 := (f12_takeBack r23.2 x1); (o12_oddsFrom_c40 T oT x1 x2 x3 x4 x5 x6 fu (v7 + r23.1) (v8 + 1) s24))))))))))))) else ((vp_in ((0 : Int32) + x5) 255) ∧ ((o12_standsIf σ x5 (σ 140 (Int32.toNatClampNeg ((0 : Int32) + x5))) (0 : Int32)) ∧ (let r1 := (f12_standsIf σ x5 (σ 140 (Int32.toNatClampNeg ((0 : Int32) + x5))) (0 : Int32)); if (r1.2 137 0) < ((((r1.2 140 8) + (f12_stepsNow σ x5)) + (0 : Int32)) + r1.1) then (o12_oddsFrom_c40 T oT x1 x2 x3 x4 x5 x6 fu v7 (v8 + 1) r1.2) else ((vp_in ((0 : Int32) + x5) 255) ∧ ((o12_isThankful r1.2 x5) ∧ (if (f12_isThankful r1.2 x5) = true then ((vp_in ((0 : Int32) + x5) 255) ∧ (let s10 := sp r1.2 140 (Int32.toNatClampNeg ((0 : Int32) + x5)) ((r1.2 140 (Int32.toNatClampNeg ((0 : Int32) + x5))) - (0 : Int32)); let s11 := sp s10 140 8 ((((r1.2 140 8) + (f12_stepsNow σ x5)) + (0 : Int32)) + r1.1); let s12 := sp s11 140 10 x5; let s13 := sp s12 140 11 ((s10 140 11) ||| ((1 : Int32) <<< (x5 &&& 31))); if v8 = (1 : Int32) then ((oT s13 (x1 + (1 : Int32)) x2 x3 x6) ∧ (let r16 := (T s13 (x1 + (1 : Int32)) x2 x3 x6); (o12_takeBack r16.2 x1) ∧ (let s17 := (f12_takeBack r16.2 x1); (o12_oddsFrom_c40 T oT x1 x2 x3 x4 x5 x6 fu (v7 + r16.1) (v8 + 1) s17)))) else ((oT s13 (x1 + (1 : Int32)) x2 x3 (x4 - x6)) ∧ (let r14 := (T s13 (x1 + (1 : Int32)) x2 x3 (x4 - x6)); (o12_takeBack r14.2 x1) ∧ (let s15 := (f12_takeBack r14.2 x1); (o12_oddsFrom_c40 T oT x1 x2 x3 x4 x5 x6 fu (v7 + r14.1) (v8 + 1) s15)))))) else ((vp_in ((0 : Int32) + x5) 255) ∧ ((vp_in ((0 : Int32) + x5) 255) ∧ (let s2 := sp r1.2 140 (Int32.toNatClampNeg ((0 : Int32) + x5)) ((r1.2 140 (Int32.toNatClampNeg ((0 : Int32) + x5))) - (if r1.1 < (r1.2 140 (Int32.toNatClampNeg ((0 : Int32) + x5))) then r1.1 else (r1.2 140 (Int32.toNatClampNeg ((0 : Int32) + x5))))); let s3 := sp s2 140 8 ((((r1.2 140 8) + (f12_stepsNow σ x5)) + (0 : Int32)) + r1.1); let s4 := sp s3 140 10 x5; let s5 := sp s4 140 11 ((s2 140 11) ||| ((1 : Int32) <<< (x5 &&& 31))); if v8 = (1 : Int32) then ((oT s5 (x1 + (1 : Int32)) x2 x3 x6) ∧ (let r8 := (T s5 (x1 + (1 : Int32)) x2 x3 x6); (o12_takeBack r8.2 x1) ∧ (let s9 := (f12_takeBack r8.2 x1); (o12_oddsFrom_c40 T oT x1 x2 x3 x4 x5 x6 fu (v7 + r8.1) (v8 + 1) s9)))) else ((oT s5 (x1 + (1 : Int32)) x2 x3 (x4 - x6)) ∧ (let r6 := (T s5 (x1 + (1 : Int32)) x2 x3 (x4 - x6)); (o12_takeBack r6.2 x1) ∧ (let s7 := (f12_takeBack r6.2 x1); (o12_oddsFrom_c40 T oT x1 x2 x3 x4 x5 x6 fu (v7 + r6.1) (v8 + 1) s7)))))))))))))))
noncomputable def f12_oddsFrom (T : SI → Int32 → Int32 → Int32 → Int32 → Int32 × SI) (σ : SI) (x1 : Int32) (x2 : Int32) (x3 : Int32) (x4 : Int32) : Int32 × SI := if x1 = x2 then (x4, σ) else (let s0 := (f12_putAside σ x1); (f12_oddsFrom_c40 T x1 x2 x3 x4 (σ 144 (Int32.toNatClampNeg x1)) (Int64.toInt32 (((Int32.toInt64 x4) * (Int32.toInt64 x3)) / (100 : Int64))) (fu1 ((Int32.toInt (2 : Int32) - Int32.toInt (0 : Int32)).toNat)) (0 : Int32) (0 : Int32) s0))
noncomputable def o12_oddsFrom (T : SI → Int32 → Int32 → Int32 → Int32 → Int32 × SI) (oT : SI → Int32 → Int32 → Int32 → Int32 → Prop) (σ : SI) (x1 : Int32) (x2 : Int32) (x3 : Int32) (x4 : Int32) : Prop := if x1 = x2 then True else ((vp_in x1 7) ∧ ((o12_putAside σ x1) ∧ (let s0 := (f12_putAside σ x1); (o12_oddsFrom_c40 T oT x1 x2 x3 x4 (σ 144 (Int32.toNatClampNeg x1)) (Int64.toInt32 (((Int32.toInt64 x4) * (Int32.toInt64 x3)) / (100 : Int64))) (fu1 ((Int32.toInt (2 : Int32) - Int32.toInt (0 : Int32)).toNat)) (0 : Int32) (0 : Int32) s0))))
theorem w_f12_oddsFrom_c40 {T : SI → Int32 → Int32 → Int32 → Int32 → Int32 × SI} (hTf : ∀ (σ : SI) (x1 : Int32) (x2 : Int32) (x3 : Int32) (x4 : Int32) (b : Nat), b ≠ 132 → b ≠ 133 → b ≠ 140 → b ≠ 143 → (T σ x1 x2 x3 x4).2 b = σ b) (x1 : Int32) (x2 : Int32) (x3 : Int32) (x4 : Int32) (x5 : Int32) (x6 : Int32) (a : Nat) (h0 : a ≠ 132) (h1 : a ≠ 133) (h2 : a ≠ 140) (h3 : a ≠ 143) : ∀ (fu : Nat) (v7 : Int32) (v8 : Int32) (σ : SI), (f12_oddsFrom_c40 T x1 x2 x3 x4 x5 x6 fu v7 v8 σ).2 a = σ a := by
  intro fu
  induction fu with
  | zero => intro v7 v8 σ; exact rfl
  | succ fu ih =>
    intro v7 v8 σ
    refine fp_to2 ?_
    unfold f12_oddsFrom_c40
    exact (fr_ite2 (fr_mk21 rfl) (fr_ite2 (fr_ite2 (fp_of2 (((ih _ _ _).trans (w_f12_standsIf _ _ _ _ a h0 h1)))) (fr_ite2 (fr_ite2 (fp_of2 (((ih _ _ _).trans ((w_f12_takeBack _ _ a h2).trans ((hTf _ _ _ _ _ a h0 h1 h2 h3).trans ((sp_n h2).trans ((sp_n h2).trans ((sp_n h2).trans ((sp_n h2).trans (w_f12_standsIf _ _ _ _ a h0 h1)))))))))) (fp_of2 (((ih _ _ _).trans ((w_f12_takeBack _ _ a h2).trans ((hTf _ _ _ _ _ a h0 h1 h2 h3).trans ((sp_n h2).trans ((sp_n h2).trans ((sp_n h2).trans ((sp_n h2).trans (w_f12_standsIf _ _ _ _ a h0 h1))))))))))) (fr_ite2 (fp_of2 (((ih _ _ _).trans ((w_f12_takeBack _ _ a h2).trans ((hTf _ _ _ _ _ a h0 h1 h2 h3).trans ((sp_n h2).trans ((sp_n h2).trans ((sp_n h2).trans ((sp_n h2).trans (w_f12_standsIf _ _ _ _ a h0 h1)))))))))) (fp_of2 (((ih _ _ _).trans ((w_f12_takeBack _ _ a h2).trans ((hTf _ _ _ _ _ a h0 h1 h2 h3).trans ((sp_n h2).trans ((sp_n h2).trans ((sp_n h2).trans ((sp_n h2).trans (w_f12_standsIf _ _ _ _ a h0 h1))))))))))))) (fr_ite2 (fp_of2 (((ih _ _ _).trans (w_f12_standsIf _ _ _ _ a h0 h1)))) (fr_ite2 (fr_ite2 (fp_of2 (((ih _ _ _).trans ((w_f12_takeBack _ _ a h2).trans ((hTf _ _ _ _ _ a h0 h1 h2 h3).trans ((sp_n h2).trans ((sp_n h2).trans ((sp_n h2).trans ((sp_n h2).trans (w_f12_standsIf _ _ _ _ a h0 h1)))))))))) (fp_of2 (((ih _ _ _).trans ((w_f12_takeBack _ _ a h2).trans ((hTf _ _ _ _ _ a h0 h1 h2 h3).trans ((sp_n h2).trans ((sp_n h2).trans ((sp_n h2).trans ((sp_n h2).trans (w_f12_standsIf _ _ _ _ a h0 h1))))))))))) (fr_ite2 (fp_of2 (((ih _ _ _).trans ((w_f12_takeBack _ _ a h2).trans ((hTf _ _ _ _ _ a h0 h1 h2 h3).trans ((sp_n h2).trans ((sp_n h2).trans ((sp_n h2).trans ((sp_n h2).trans (w_f12_standsIf _ _ _ _ a h0 h1)))))))))) (fp_of2 (((ih _ _ _).trans ((w_f12_takeBack _ _ a h2).trans ((hTf _ _ _ _ _ a h0 h1 h2 h3).trans ((sp_n h2).trans ((sp_n h2).trans ((sp_n h2).trans ((sp_n h2).trans (w_f12_standsIf _ _ _ _ a h0 h1)))))))))))))))
theorem w_f12_oddsFrom {T : SI → Int32 → Int32 → Int32 → Int32 → Int32 × SI} (hTf : ∀ (σ : SI) (x1 : Int32) (x2 : Int32) (x3 : Int32) (x4 : Int32) (b : Nat), b ≠ 132 → b ≠ 133 → b ≠ 140 → b ≠ 143 → (T σ x1 x2 x3 x4).2 b = σ b) (σ : SI) (x1 : Int32) (x2 : Int32) (x3 : Int32) (x4 : Int32) (a : Nat) (h0 : a ≠ 132) (h1 : a ≠ 133) (h2 : a ≠ 140) (h3 : a ≠ 143) : (f12_oddsFrom T σ x1 x2 x3 x4).2 a = σ a := by
  refine fp_to2 ?_
  unfold f12_oddsFrom
  exact (fr_ite2 (fr_mk21 rfl) (fp_of2 (((w_f12_oddsFrom_c40 hTf _ _ _ _ _ _ a h0 h1 h2 h3 _ _ _ _).trans (w_f12_putAside _ _ a h3)))))
set_option maxHeartbeats 4000000 in
set_option maxRecDepth 100000 in
theorem c12_oddsFrom_c40 {l : Launch} {p : Program} {e : Env} {s : State} {m : MethodId} {args : Array Value} {below : List Frame} {meth : Method} {c : Code} {G : GT} (X : CX p s m args meth c cX12_oddsFrom RX12 13 (some .int) G) {T : SI → Int32 → Int32 → Int32 → Int32 → Int32 × SI} {oT : SI → Int32 → Int32 → Int32 → Int32 → Prop} {D : Nat} (hT : ∀ (σ : SI) (τ : SL) (x1 : Int32) (x2 : Int32) (x3 : Int32) (x4 : Int32), oT σ x1 x2 x3 x4 → Mc l yX12_oddsFrom cX12_oddsFrom 13 (some .int) (40 + D) G [.ref (G.2.1 123), .int x1, .int x2, .int x3, .int x4] σ τ (Qi G (Ei (T σ x1 x2 x3 x4).1 (T σ x1 x2 x3 x4).2 τ))) {E : Int32 × SI} (τ : SL) (x1 : Int32) (x2 : Int32) (x3 : Int32) (x4 : Int32) (x5 : Int32) (x6 : Int32) : ∀ (fu : Nat) (v7 : Int32) (v8 : Int32) (σ : SI) (H : Heap) (locs : List Loc) (ls : Array Slot), IX G s H locs σ τ → lv_has ls 13 [(0, .ref (G.2.1 123)), (1, .int x1), (2, .int x2), (3, .int x3), (4, .int x4), (5, .int x5), (6, .int x6), (7, .int v7), (8, .int v8)] → (o12_oddsFrom_c40 T oT x1 x2 x3 x4 x5 x6 fu v7 v8 σ) → (Int32.toInt (2 : Int32) - Int32.toInt v8).toNat < fu → E = (f12_oddsFrom_c40 T x1 x2 x3 x4 x5 x6 fu v7 v8 σ) → W p l e (rmN (40 + D + 1)) s m args below meth c H locs 0 0 (MQ below ((Qi G (Ei E.1 E.2 τ)) s.heap.size) args s 0 0 (AW G s.heap.size)) (F0 m 40 ls []) := by
  intro fu
  induction fu with
  | zero =>
    intro v7 v8 σ H locs ls I hl  ho hm hE
    exact absurd hm (Nat.not_lt_zero _)
  | succ fu ih =>
    intro v7 v8 σ H locs ls I hl  ho hm hE
    unfold o12_oddsFrom_c40 at ho
    refine lv_iload X.1 X.2.1 dX12_oddsFrom_40 (lv_at hl 8 rfl) ?_
    refine lv_iconst (v := 2) X.1 X.2.1 dX12_oddsFrom_42 (by decide) ?_
    refine lv_icmp_ge (tgt := 230) X.1 X.2.1 dX12_oddsFrom_43 (by decide) (fun c_2 => ?_) (fun c_2 => ?_)
    · skip
      have hE := ite_t hE c_2
      have ho := ite_tP ho c_2
      refine lv_iload X.1 X.2.1 dX12_oddsFrom_230 (lv_at hl 7 rfl) ?_
      have h9 := hE
      exact r_iret X I (e_i (pr_fst h9) (pr_snd h9) rfl) dX12_oddsFrom_232
    · skip
      have hE := ite_f hE c_2
      have ho := ite_fP ho c_2
      refine lv_aload_n X.1 X.2.1 dX12_oddsFrom_46 rfl (lv_at hl 0 rfl) ?_
      refine lv_iload X.1 X.2.1 dX12_oddsFrom_47 (lv_at hl 5 rfl) ?_
      have ho3 := ho.1
      have ho := ho.2
      refine r_ei I (r_runV X I pk_X12_stepsNow (c12_stepsNow l G _ _ _ ho3) lm_X12_313 (by decide) (cl_12 rfl) rfl rfl rfl hl.1 rfl (Nat.le_of_ble_eq_true rfl) dX12_oddsFrom_49 (hr_le (by omega) (by decide)) ⟨Nat.le_refl 0, Nat.le_refl 0⟩) (fun H locs I => ?_)
      refine lv_istore (lv' := [(9, .int _), (0, .ref _), (1, .int _), (2, .int _), (3, .int _), (4, .int _), (5, .int _), (6, .int _), (7, .int _), (8, .int _)]) X.1 X.2.1 dX12_oddsFrom_52 hl (by decide) rfl (fun ls hl => ?_)
      refine lv_iload X.1 X.2.1 dX12_oddsFrom_54 (lv_at hl 9 rfl) ?_
      refine lv_iconst (v := 1) X.1 X.2.1 dX12_oddsFrom_56 (by decide) ?_
      refine lv_icmp_ne (tgt := 67) X.1 X.2.1 dX12_oddsFrom_57 (by decide) (fun c_3 => ?_) (fun c_3 => ?_)
      · skip
        have hE := ite_f hE c_3
        have ho := ite_fP ho c_3
        refine lv_iconst (v := 0) X.1 X.2.1 dX12_oddsFrom_67 (by decide) ?_
        refine lv_istore (lv' := [(10, .int _), (9, .int _), (0, .ref _), (1, .int _), (2, .int _), (3, .int _), (4, .int _), (5, .int _), (6, .int _), (7, .int _), (8, .int _)]) X.1 X.2.1 dX12_oddsFrom_68 hl (by decide) rfl (fun ls hl => ?_)
        refine lv_aload_n X.1 X.2.1 dX12_oddsFrom_70 rfl (lv_at hl 2 rfl) ?_
        refine lv_iload X.1 X.2.1 dX12_oddsFrom_71 (lv_at hl 7 rfl) ?_
        refine lv_aload_n X.1 X.2.1 dX12_oddsFrom_73 rfl (lv_at hl 2 rfl) ?_
        refine g12_27 X I (k := 123) (by decide) rfl lf_X12_58 dX12_oddsFrom_74 ?_
        refine lv_iconst (v := 0) X.1 X.2.1 dX12_oddsFrom_77 (by decide) ?_
        refine lv_iload X.1 X.2.1 dX12_oddsFrom_78 (lv_at hl 7 rfl) ?_
        refine lv_iadd X.1 X.2.1 dX12_oddsFrom_80 ?_
        have ho4 := ho.1
        have ho := ho.2
        refine r_ald X I (k := 140) (n := 255) (by decide) rfl ho4 dX12_oddsFrom_81 ?_
        refine lv_iload X.1 X.2.1 dX12_oddsFrom_82 (lv_at hl 0 rfl) ?_
        have ho5 := ho.1
        have ho := ho.2
        refine r_ei I (r_runV X I pk_X12_standsIf (c12_standsIf l G _ _ _ _ _ ho5) lm_X12_323 (by decide) (cl_12 rfl) rfl rfl rfl hl.1 rfl (Nat.le_of_ble_eq_true rfl) dX12_oddsFrom_84 (hr_le (by omega) (by decide)) ⟨Nat.le_refl 0, Nat.le_refl 0⟩) (fun H locs I => ?_)
        refine lv_istore (lv' := [(11, .int _), (10, .int _), (9, .int _), (0, .ref _), (1, .int _), (2, .int _), (3, .int _), (4, .int _), (5, .int _), (6, .int _), (7, .int _), (8, .int _)]) X.1 X.2.1 dX12_oddsFrom_87 hl (by decide) rfl (fun ls hl => ?_)
        refine lv_aload_n X.1 X.2.1 dX12_oddsFrom_89 rfl (lv_at hl 3 rfl) ?_
        refine g12_27 X I (k := 123) (by decide) rfl lf_X12_58 dX12_oddsFrom_90 ?_
        refine lv_bipush (v := 8) X.1 X.2.1 dX12_oddsFrom_93 (by decide) ?_
        refine r_ald X I (k := 140) (n := 255) (by decide) rfl (by unfold vp_in; decide) dX12_oddsFrom_95 ?_
        refine lv_iload X.1 X.2.1 dX12_oddsFrom_96 (lv_at hl 2 rfl) ?_
        refine lv_iadd X.1 X.2.1 dX12_oddsFrom_98 ?_
        refine lv_iload X.1 X.2.1 dX12_oddsFrom_99 (lv_at hl 1 rfl) ?_
        refine lv_iadd X.1 X.2.1 dX12_oddsFrom_101 ?_
        refine lv_iload X.1 X.2.1 dX12_oddsFrom_102 (lv_at hl 0 rfl) ?_
        refine lv_iadd X.1 X.2.1 dX12_oddsFrom_104 ?_
        refine lv_istore (lv' := [(12, .int _), (11, .int _), (10, .int _), (9, .int _), (0, .ref _), (1, .int _), (2, .int _), (3, .int _), (4, .int _), (5, .int _), (6, .int _), (7, .int _), (8, .int _)]) X.1 X.2.1 dX12_oddsFrom_105 hl (by decide) rfl (fun ls hl => ?_)
        refine lv_iload X.1 X.2.1 dX12_oddsFrom_107 (lv_at hl 0 rfl) ?_
        refine lv_aload_n X.1 X.2.1 dX12_oddsFrom_109 rfl (lv_at hl 4 rfl) ?_
        refine g12_22 X I (k := 123) (by decide) rfl lf_X12_49 dX12_oddsFrom_110 ?_
        refine lv_iconst (v := 0) X.1 X.2.1 dX12_oddsFrom_113 (by decide) ?_
        refine r_ald X I (k := 137) (n := 3) (by decide) rfl (by unfold vp_in; decide) dX12_oddsFrom_114 ?_
        refine lv_icmp_gt (tgt := 224) X.1 X.2.1 dX12_oddsFrom_115 (by decide) (fun c_4 => ?_) (fun c_4 => ?_)
        · skip
          have hE := ite_t hE c_4
          have ho := ite_tP ho c_4
          refine lv_iinc (v := _ + 1) (lv' := [(8, .int _), (12, .int _), (11, .int _), (10, .int _), (9, .int _), (0, .ref _), (1, .int _), (2, .int _), (3, .int _), (4, .int _), (5, .int _), (6, .int _), (7, .int _)]) X.1 X.2.1 dX12_oddsFrom_224 hl (k := 12) rfl rfl (by decide) rfl (fun ls hl => ?_)
          refine lv_goto (tgt := 40) X.1 X.2.1 dX12_oddsFrom_227 (by decide) ?_
          exact ih _ _ _ _ _ _ I (lv_sub hl [5, 6, 7, 8, 9, 10, 11, 12, 0] rfl) ho (Nat.lt_of_lt_of_le (up_dec c_2) (Nat.le_of_lt_succ hm)) (hE.trans (rfl))
        · skip
          have hE := ite_f hE c_4
          have ho := ite_fP ho c_4
          refine lv_aload_n X.1 X.2.1 dX12_oddsFrom_118 rfl (lv_at hl 4 rfl) ?_
          refine g12_27 X I (k := 123) (by decide) rfl lf_X12_58 dX12_oddsFrom_119 ?_
          refine lv_iconst (v := 0) X.1 X.2.1 dX12_oddsFrom_122 (by decide) ?_
          refine lv_iload X.1 X.2.1 dX12_oddsFrom_123 (lv_at hl 9 rfl) ?_
          refine lv_iadd X.1 X.2.1 dX12_oddsFrom_125 ?_
          refine lv_dup2_11 X.1 X.2.1 dX12_oddsFrom_126 rfl rfl ?_
          have ho6 := ho.1
          have ho := ho.2
          refine r_ald X I (k := 140) (n := 255) (by decide) rfl ho6 dX12_oddsFrom_127 ?_
          refine lv_aload_n X.1 X.2.1 dX12_oddsFrom_128 rfl (lv_at hl 4 rfl) ?_
          refine lv_iload X.1 X.2.1 dX12_oddsFrom_129 (lv_at hl 9 rfl) ?_
          have ho7 := ho.1
          have ho := ho.2
          refine r_ei I (r_runV X I pk_X12_isThankful (c12_isThankful l G _ _ _ ho7) lm_X12_295 (by decide) (cl_12 rfl) rfl rfl rfl hl.1 rfl (Nat.le_of_ble_eq_true rfl) dX12_oddsFrom_131 (hr_le (by omega) (by decide)) ⟨Nat.le_refl 0, Nat.le_refl 0⟩) (fun H locs I => ?_)
          refine lv_if_eq (tgt := 141) X.1 X.2.1 dX12_oddsFrom_134 (by decide) (fun c_5 => ?_) (fun c_5 => ?_)
          · skip
            have hE := ite_f hE (b2i_n c_5)
            have ho := ite_fP ho (b2i_n c_5)
            refine lv_aload_n X.1 X.2.1 dX12_oddsFrom_141 rfl (lv_at hl 4 rfl) ?_
            refine g12_27 X I (k := 123) (by decide) rfl lf_X12_58 dX12_oddsFrom_142 ?_
            refine lv_iconst (v := 0) X.1 X.2.1 dX12_oddsFrom_145 (by decide) ?_
            refine lv_iload X.1 X.2.1 dX12_oddsFrom_146 (lv_at hl 9 rfl) ?_
            refine lv_iadd X.1 X.2.1 dX12_oddsFrom_148 ?_
            have ho8 := ho.1
            have ho := ho.2
            refine r_ald X I (k := 140) (n := 255) (by decide) rfl ho8 dX12_oddsFrom_149 ?_
            refine lv_iload X.1 X.2.1 dX12_oddsFrom_150 (lv_at hl 1 rfl) ?_
            refine r_mmin X hl.1 lm_X12_301 ls_J9_min_7cf53 ln_J9 lc_J9_min_7cf53 (Nat.le_of_ble_eq_true rfl) (Nat.le_of_ble_eq_true rfl) (Nat.le_refl 0) (Nat.le_refl 0) dX12_oddsFrom_152 ?_
            refine lv_isub X.1 X.2.1 dX12_oddsFrom_155 ?_
            have ho9 := ho.1
            have ho := ho.2
            refine r_ast X I (k := 140) (n := 255) (by decide) rfl ho9 dX12_oddsFrom_156 (fun H locs I => ?_)
            refine lv_aload_n X.1 X.2.1 dX12_oddsFrom_157 rfl (lv_at hl 4 rfl) ?_
            refine g12_27 X I (k := 123) (by decide) rfl lf_X12_58 dX12_oddsFrom_158 ?_
            refine lv_bipush (v := 8) X.1 X.2.1 dX12_oddsFrom_161 (by decide) ?_
            refine lv_iload X.1 X.2.1 dX12_oddsFrom_163 (lv_at hl 0 rfl) ?_
            refine r_ast X I (k := 140) (n := 255) (by decide) rfl (by unfold vp_in; decide) dX12_oddsFrom_165 (fun H locs I => ?_)
            refine lv_aload_n X.1 X.2.1 dX12_oddsFrom_166 rfl (lv_at hl 4 rfl) ?_
            refine g12_27 X I (k := 123) (by decide) rfl lf_X12_58 dX12_oddsFrom_167 ?_
            refine lv_bipush (v := 10) X.1 X.2.1 dX12_oddsFrom_170 (by decide) ?_
            refine lv_iload X.1 X.2.1 dX12_oddsFrom_172 (lv_at hl 9 rfl) ?_
            refine r_ast X I (k := 140) (n := 255) (by decide) rfl (by unfold vp_in; decide) dX12_oddsFrom_174 (fun H locs I => ?_)
            refine lv_aload_n X.1 X.2.1 dX12_oddsFrom_175 rfl (lv_at hl 4 rfl) ?_
            refine g12_27 X I (k := 123) (by decide) rfl lf_X12_58 dX12_oddsFrom_176 ?_
            refine lv_bipush (v := 11) X.1 X.2.1 dX12_oddsFrom_179 (by decide) ?_
            refine lv_dup2_11 X.1 X.2.1 dX12_oddsFrom_181 rfl rfl ?_
            refine r_ald X I (k := 140) (n := 255) (by decide) rfl (by unfold vp_in; decide) dX12_oddsFrom_182 ?_
            refine lv_iconst (v := 1) X.1 X.2.1 dX12_oddsFrom_183 (by decide) ?_
            refine lv_iload X.1 X.2.1 dX12_oddsFrom_184 (lv_at hl 9 rfl) ?_
            refine lv_ishl X.1 X.2.1 dX12_oddsFrom_186 ?_
            refine lv_ior X.1 X.2.1 dX12_oddsFrom_187 ?_
            refine r_ast X I (k := 140) (n := 255) (by decide) rfl (by unfold vp_in; decide) dX12_oddsFrom_188 (fun H locs I => ?_)
            refine lv_iload X.1 X.2.1 dX12_oddsFrom_189 (lv_at hl 11 rfl) ?_
            refine lv_aload_n X.1 X.2.1 dX12_oddsFrom_191 rfl (lv_at hl 4 rfl) ?_
            refine lv_iload_n X.1 X.2.1 dX12_oddsFrom_192 rfl (lv_at hl 5 rfl) ?_
            refine lv_iconst (v := 1) X.1 X.2.1 dX12_oddsFrom_193 (by decide) ?_
            refine lv_iadd X.1 X.2.1 dX12_oddsFrom_194 ?_
            refine lv_iload_n X.1 X.2.1 dX12_oddsFrom_195 rfl (lv_at hl 6 rfl) ?_
            refine lv_iload_n X.1 X.2.1 dX12_oddsFrom_196 rfl (lv_at hl 7 rfl) ?_
            refine lv_iload X.1 X.2.1 dX12_oddsFrom_197 (lv_at hl 12 rfl) ?_
            refine lv_iconst (v := 1) X.1 X.2.1 dX12_oddsFrom_199 (by decide) ?_
            refine lv_icmp_ne (tgt := 208) X.1 X.2.1 dX12_oddsFrom_200 (by decide) (fun c_6 => ?_) (fun c_6 => ?_)
            · skip
              have hE := ite_f hE c_6
              have ho := ite_fP ho c_6
              refine lv_iload X.1 X.2.1 dX12_oddsFrom_208 (lv_at hl 8 rfl) ?_
              refine lv_iload X.1 X.2.1 dX12_oddsFrom_210 (lv_at hl 10 rfl) ?_
              refine lv_isub X.1 X.2.1 dX12_oddsFrom_212 ?_
              have ho10 := ho.1
              have ho := ho.2
              refine r_ei I (r_runV X I pk_X12_oddsFrom (hT _ _ _ _ _ _ ho10) lm_X12_434 (by decide) (cl_12 rfl) rfl rfl rfl hl.1 rfl (Nat.le_of_ble_eq_true rfl) dX12_oddsFrom_213 (hr_le (by omega) (by decide)) ⟨Nat.le_refl 0, Nat.le_refl 0⟩) (fun H locs I => ?_)
              refine lv_iadd X.1 X.2.1 dX12_oddsFrom_216 ?_
              refine lv_istore (lv' := [(7, .int _), (12, .int _), (11, .int _), (10, .int _), (9, .int _), (0, .ref _), (1, .int _), (2, .int _), (3, .int _), (4, .int _), (5, .int _), (6, .int _), (8, .int _)]) X.1 X.2.1 dX12_oddsFrom_217 hl (by decide) rfl (fun ls hl => ?_)
              refine lv_aload_n X.1 X.2.1 dX12_oddsFrom_219 rfl (lv_at hl 5 rfl) ?_
              refine lv_iload_n X.1 X.2.1 dX12_oddsFrom_220 rfl (lv_at hl 6 rfl) ?_
              have ho11 := ho.1
              have ho := ho.2
              refine r_ev I (r_runV X I pk_X12_takeBack (c12_takeBack l G _ _ _ ho11) lm_X12_392 (by decide) (cl_12 rfl) rfl rfl rfl hl.1 rfl (Nat.le_of_ble_eq_true rfl) dX12_oddsFrom_221 (hr_le (by omega) (by decide)) ⟨Nat.le_refl 0, Nat.le_refl 0⟩) (fun H locs I => ?_)
              refine lv_iinc (v := _ + 1) (lv' := [(8, .int _), (7, .int _), (12, .int _), (11, .int _), (10, .int _), (9, .int _), (0, .ref _), (1, .int _), (2, .int _), (3, .int _), (4, .int _), (5, .int _), (6, .int _)]) X.1 X.2.1 dX12_oddsFrom_224 hl (k := 12) rfl rfl (by decide) rfl (fun ls hl => ?_)
              refine lv_goto (tgt := 40) X.1 X.2.1 dX12_oddsFrom_227 (by decide) ?_
              exact ih _ _ _ _ _ _ I (lv_sub hl [6, 7, 8, 9, 10, 11, 12, 1, 0] rfl) ho (Nat.lt_of_lt_of_le (up_dec c_2) (Nat.le_of_lt_succ hm)) (hE.trans (rfl))
            · skip
              have hE := ite_t hE c_6
              have ho := ite_tP ho c_6
              refine lv_iload X.1 X.2.1 dX12_oddsFrom_203 (lv_at hl 10 rfl) ?_
              refine lv_goto (tgt := 213) X.1 X.2.1 dX12_oddsFrom_205 (by decide) ?_
              have ho12 := ho.1
              have ho := ho.2
              refine r_ei I (r_runV X I pk_X12_oddsFrom (hT _ _ _ _ _ _ ho12) lm_X12_434 (by decide) (cl_12 rfl) rfl rfl rfl hl.1 rfl (Nat.le_of_ble_eq_true rfl) dX12_oddsFrom_213 (hr_le (by omega) (by decide)) ⟨Nat.le_refl 0, Nat.le_refl 0⟩) (fun H locs I => ?_)
              refine lv_iadd X.1 X.2.1 dX12_oddsFrom_216 ?_
              refine lv_istore (lv' := [(7, .int _), (12, .int _), (11, .int _), (10, .int _), (9, .int _), (0, .ref _), (1, .int _), (2, .int _), (3, .int _), (4, .int _), (5, .int _), (6, .int _), (8, .int _)]) X.1 X.2.1 dX12_oddsFrom_217 hl (by decide) rfl (fun ls hl => ?_)
              refine lv_aload_n X.1 X.2.1 dX12_oddsFrom_219 rfl (lv_at hl 5 rfl) ?_
              refine lv_iload_n X.1 X.2.1 dX12_oddsFrom_220 rfl (lv_at hl 6 rfl) ?_
              have ho13 := ho.1
              have ho := ho.2
              refine r_ev I (r_runV X I pk_X12_takeBack (c12_takeBack l G _ _ _ ho13) lm_X12_392 (by decide) (cl_12 rfl) rfl rfl rfl hl.1 rfl (Nat.le_of_ble_eq_true rfl) dX12_oddsFrom_221 (hr_le (by omega) (by decide)) ⟨Nat.le_refl 0, Nat.le_refl 0⟩) (fun H locs I => ?_)
              refine lv_iinc (v := _ + 1) (lv' := [(8, .int _), (7, .int _), (12, .int _), (11, .int _), (10, .int _), (9, .int _), (0, .ref _), (1, .int _), (2, .int _), (3, .int _), (4, .int _), (5, .int _), (6, .int _)]) X.1 X.2.1 dX12_oddsFrom_224 hl (k := 12) rfl rfl (by decide) rfl (fun ls hl => ?_)
              refine lv_goto (tgt := 40) X.1 X.2.1 dX12_oddsFrom_227 (by decide) ?_
              exact ih _ _ _ _ _ _ I (lv_sub hl [6, 7, 8, 9, 10, 11, 12, 1, 0] rfl) ho (Nat.lt_of_lt_of_le (up_dec c_2) (Nat.le_of_lt_succ hm)) (hE.trans (rfl))
          · skip
            have hE := ite_t hE (b2i_y c_5)
            have ho := ite_tP ho (b2i_y c_5)
            refine lv_iconst (v := 0) X.1 X.2.1 dX12_oddsFrom_137 (by decide) ?_
            refine lv_goto (tgt := 155) X.1 X.2.1 dX12_oddsFrom_138 (by decide) ?_
            refine lv_isub X.1 X.2.1 dX12_oddsFrom_155 ?_
            have ho14 := ho.1
            have ho := ho.2
            refine r_ast X I (k := 140) (n := 255) (by decide) rfl ho14 dX12_oddsFrom_156 (fun H locs I => ?_)
            refine lv_aload_n X.1 X.2.1 dX12_oddsFrom_157 rfl (lv_at hl 4 rfl) ?_
            refine g12_27 X I (k := 123) (by decide) rfl lf_X12_58 dX12_oddsFrom_158 ?_
            refine lv_bipush (v := 8) X.1 X.2.1 dX12_oddsFrom_161 (by decide) ?_
            refine lv_iload X.1 X.2.1 dX12_oddsFrom_163 (lv_at hl 0 rfl) ?_
            refine r_ast X I (k := 140) (n := 255) (by decide) rfl (by unfold vp_in; decide) dX12_oddsFrom_165 (fun H locs I => ?_)
            refine lv_aload_n X.1 X.2.1 dX12_oddsFrom_166 rfl (lv_at hl 4 rfl) ?_
            refine g12_27 X I (k := 123) (by decide) rfl lf_X12_58 dX12_oddsFrom_167 ?_
            refine lv_bipush (v := 10) X.1 X.2.1 dX12_oddsFrom_170 (by decide) ?_
            refine lv_iload X.1 X.2.1 dX12_oddsFrom_172 (lv_at hl 9 rfl) ?_
            refine r_ast X I (k := 140) (n := 255) (by decide) rfl (by unfold vp_in; decide) dX12_oddsFrom_174 (fun H locs I => ?_)
            refine lv_aload_n X.1 X.2.1 dX12_oddsFrom_175 rfl (lv_at hl 4 rfl) ?_
            refine g12_27 X I (k := 123) (by decide) rfl lf_X12_58 dX12_oddsFrom_176 ?_
            refine lv_bipush (v := 11) X.1 X.2.1 dX12_oddsFrom_179 (by decide) ?_
            refine lv_dup2_11 X.1 X.2.1 dX12_oddsFrom_181 rfl rfl ?_
            refine r_ald X I (k := 140) (n := 255) (by decide) rfl (by unfold vp_in; decide) dX12_oddsFrom_182 ?_
            refine lv_iconst (v := 1) X.1 X.2.1 dX12_oddsFrom_183 (by decide) ?_
            refine lv_iload X.1 X.2.1 dX12_oddsFrom_184 (lv_at hl 9 rfl) ?_
            refine lv_ishl X.1 X.2.1 dX12_oddsFrom_186 ?_
            refine lv_ior X.1 X.2.1 dX12_oddsFrom_187 ?_
            refine r_ast X I (k := 140) (n := 255) (by decide) rfl (by unfold vp_in; decide) dX12_oddsFrom_188 (fun H locs I => ?_)
            refine lv_iload X.1 X.2.1 dX12_oddsFrom_189 (lv_at hl 11 rfl) ?_
            refine lv_aload_n X.1 X.2.1 dX12_oddsFrom_191 rfl (lv_at hl 4 rfl) ?_
            refine lv_iload_n X.1 X.2.1 dX12_oddsFrom_192 rfl (lv_at hl 5 rfl) ?_
            refine lv_iconst (v := 1) X.1 X.2.1 dX12_oddsFrom_193 (by decide) ?_
            refine lv_iadd X.1 X.2.1 dX12_oddsFrom_194 ?_
            refine lv_iload_n X.1 X.2.1 dX12_oddsFrom_195 rfl (lv_at hl 6 rfl) ?_
            refine lv_iload_n X.1 X.2.1 dX12_oddsFrom_196 rfl (lv_at hl 7 rfl) ?_
            refine lv_iload X.1 X.2.1 dX12_oddsFrom_197 (lv_at hl 12 rfl) ?_
            refine lv_iconst (v := 1) X.1 X.2.1 dX12_oddsFrom_199 (by decide) ?_
            refine lv_icmp_ne (tgt := 208) X.1 X.2.1 dX12_oddsFrom_200 (by decide) (fun c_7 => ?_) (fun c_7 => ?_)
            · skip
              have hE := ite_f hE c_7
              have ho := ite_fP ho c_7
              refine lv_iload X.1 X.2.1 dX12_oddsFrom_208 (lv_at hl 8 rfl) ?_
              refine lv_iload X.1 X.2.1 dX12_oddsFrom_210 (lv_at hl 10 rfl) ?_
              refine lv_isub X.1 X.2.1 dX12_oddsFrom_212 ?_
              have ho15 := ho.1
              have ho := ho.2
              refine r_ei I (r_runV X I pk_X12_oddsFrom (hT _ _ _ _ _ _ ho15) lm_X12_434 (by decide) (cl_12 rfl) rfl rfl rfl hl.1 rfl (Nat.le_of_ble_eq_true rfl) dX12_oddsFrom_213 (hr_le (by omega) (by decide)) ⟨Nat.le_refl 0, Nat.le_refl 0⟩) (fun H locs I => ?_)
              refine lv_iadd X.1 X.2.1 dX12_oddsFrom_216 ?_
              refine lv_istore (lv' := [(7, .int _), (12, .int _), (11, .int _), (10, .int _), (9, .int _), (0, .ref _), (1, .int _), (2, .int _), (3, .int _), (4, .int _), (5, .int _), (6, .int _), (8, .int _)]) X.1 X.2.1 dX12_oddsFrom_217 hl (by decide) rfl (fun ls hl => ?_)
              refine lv_aload_n X.1 X.2.1 dX12_oddsFrom_219 rfl (lv_at hl 5 rfl) ?_
              refine lv_iload_n X.1 X.2.1 dX12_oddsFrom_220 rfl (lv_at hl 6 rfl) ?_
              have ho16 := ho.1
              have ho := ho.2
              refine r_ev I (r_runV X I pk_X12_takeBack (c12_takeBack l G _ _ _ ho16) lm_X12_392 (by decide) (cl_12 rfl) rfl rfl rfl hl.1 rfl (Nat.le_of_ble_eq_true rfl) dX12_oddsFrom_221 (hr_le (by omega) (by decide)) ⟨Nat.le_refl 0, Nat.le_refl 0⟩) (fun H locs I => ?_)
              refine lv_iinc (v := _ + 1) (lv' := [(8, .int _), (7, .int _), (12, .int _), (11, .int _), (10, .int _), (9, .int _), (0, .ref _), (1, .int _), (2, .int _), (3, .int _), (4, .int _), (5, .int _), (6, .int _)]) X.1 X.2.1 dX12_oddsFrom_224 hl (k := 12) rfl rfl (by decide) rfl (fun ls hl => ?_)
              refine lv_goto (tgt := 40) X.1 X.2.1 dX12_oddsFrom_227 (by decide) ?_
              exact ih _ _ _ _ _ _ I (lv_sub hl [6, 7, 8, 9, 10, 11, 12, 1, 0] rfl) ho (Nat.lt_of_lt_of_le (up_dec c_2) (Nat.le_of_lt_succ hm)) (hE.trans (rfl))
            · skip
              have hE := ite_t hE c_7
              have ho := ite_tP ho c_7
              refine lv_iload X.1 X.2.1 dX12_oddsFrom_203 (lv_at hl 10 rfl) ?_
              refine lv_goto (tgt := 213) X.1 X.2.1 dX12_oddsFrom_205 (by decide) ?_
              have ho17 := ho.1
              have ho := ho.2
              refine r_ei I (r_runV X I pk_X12_oddsFrom (hT _ _ _ _ _ _ ho17) lm_X12_434 (by decide) (cl_12 rfl) rfl rfl rfl hl.1 rfl (Nat.le_of_ble_eq_true rfl) dX12_oddsFrom_213 (hr_le (by omega) (by decide)) ⟨Nat.le_refl 0, Nat.le_refl 0⟩) (fun H locs I => ?_)
              refine lv_iadd X.1 X.2.1 dX12_oddsFrom_216 ?_
              refine lv_istore (lv' := [(7, .int _), (12, .int _), (11, .int _), (10, .int _), (9, .int _), (0, .ref _), (1, .int _), (2, .int _), (3, .int _), (4, .int _), (5, .int _), (6, .int _), (8, .int _)]) X.1 X.2.1 dX12_oddsFrom_217 hl (by decide) rfl (fun ls hl => ?_)
              refine lv_aload_n X.1 X.2.1 dX12_oddsFrom_219 rfl (lv_at hl 5 rfl) ?_
              refine lv_iload_n X.1 X.2.1 dX12_oddsFrom_220 rfl (lv_at hl 6 rfl) ?_
              have ho18 := ho.1
              have ho := ho.2
              refine r_ev I (r_runV X I pk_X12_takeBack (c12_takeBack l G _ _ _ ho18) lm_X12_392 (by decide) (cl_12 rfl) rfl rfl rfl hl.1 rfl (Nat.le_of_ble_eq_true rfl) dX12_oddsFrom_221 (hr_le (by omega) (by decide)) ⟨Nat.le_refl 0, Nat.le_refl 0⟩) (fun H locs I => ?_)
              refine lv_iinc (v := _ + 1) (lv' := [(8, .int _), (7, .int _), (12, .int _), (11, .int _), (10, .int _), (9, .int _), (0, .ref _), (1, .int _), (2, .int _), (3, .int _), (4, .int _), (5, .int _), (6, .int _)]) X.1 X.2.1 dX12_oddsFrom_224 hl (k := 12) rfl rfl (by decide) rfl (fun ls hl => ?_)
              refine lv_goto (tgt := 40) X.1 X.2.1 dX12_oddsFrom_227 (by decide) ?_
              exact ih _ _ _ _ _ _ I (lv_sub hl [6, 7, 8, 9, 10, 11, 12, 1, 0] rfl) ho (Nat.lt_of_lt_of_le (up_dec c_2) (Nat.le_of_lt_succ hm)) (hE.trans (rfl))
      · skip
        have hE := ite_t hE c_3
        have ho := ite_tP ho c_3
        refine lv_iload X.1 X.2.1 dX12_oddsFrom_60 (lv_at hl 0 rfl) ?_
        refine lv_iconst (v := 2) X.1 X.2.1 dX12_oddsFrom_62 (by decide) ?_
        refine lv_idiv X.1 X.2.1 dX12_oddsFrom_63 (by decide) ?_
        refine lv_goto (tgt := 68) X.1 X.2.1 dX12_oddsFrom_64 (by decide) ?_
        refine lv_istore (lv' := [(10, .int _), (9, .int _), (0, .ref _), (1, .int _), (2, .int _), (3, .int _), (4, .int _), (5, .int _), (6, .int _), (7, .int _), (8, .int _)]) X.1 X.2.1 dX12_oddsFrom_68 hl (by decide) rfl (fun ls hl => ?_)
        refine lv_aload_n X.1 X.2.1 dX12_oddsFrom_70 rfl (lv_at hl 2 rfl) ?_
        refine lv_iload X.1 X.2.1 dX12_oddsFrom_71 (lv_at hl 7 rfl) ?_
        refine lv_aload_n X.1 X.2.1 dX12_oddsFrom_73 rfl (lv_at hl 2 rfl) ?_
        refine g12_27 X I (k := 123) (by decide) rfl lf_X12_58 dX12_oddsFrom_74 ?_
        refine lv_iconst (v := 0) X.1 X.2.1 dX12_oddsFrom_77 (by decide) ?_
        refine lv_iload X.1 X.2.1 dX12_oddsFrom_78 (lv_at hl 7 rfl) ?_
        refine lv_iadd X.1 X.2.1 dX12_oddsFrom_80 ?_
        have ho19 := ho.1
        have ho := ho.2
        refine r_ald X I (k := 140) (n := 255) (by decide) rfl ho19 dX12_oddsFrom_81 ?_
        refine lv_iload X.1 X.2.1 dX12_oddsFrom_82 (lv_at hl 0 rfl) ?_
        have ho20 := ho.1
        have ho := ho.2
        refine r_ei I (r_runV X I pk_X12_standsIf (c12_standsIf l G _ _ _ _ _ ho20) lm_X12_323 (by decide) (cl_12 rfl) rfl rfl rfl hl.1 rfl (Nat.le_of_ble_eq_true rfl) dX12_oddsFrom_84 (hr_le (by omega) (by decide)) ⟨Nat.le_refl 0, Nat.le_refl 0⟩) (fun H locs I => ?_)
        refine lv_istore (lv' := [(11, .int _), (10, .int _), (9, .int _), (0, .ref _), (1, .int _), (2, .int _), (3, .int _), (4, .int _), (5, .int _), (6, .int _), (7, .int _), (8, .int _)]) X.1 X.2.1 dX12_oddsFrom_87 hl (by decide) rfl (fun ls hl => ?_)
        refine lv_aload_n X.1 X.2.1 dX12_oddsFrom_89 rfl (lv_at hl 3 rfl) ?_
        refine g12_27 X I (k := 123) (by decide) rfl lf_X12_58 dX12_oddsFrom_90 ?_
        refine lv_bipush (v := 8) X.1 X.2.1 dX12_oddsFrom_93 (by decide) ?_
        refine r_ald X I (k := 140) (n := 255) (by decide) rfl (by unfold vp_in; decide) dX12_oddsFrom_95 ?_
        refine lv_iload X.1 X.2.1 dX12_oddsFrom_96 (lv_at hl 2 rfl) ?_
        refine lv_iadd X.1 X.2.1 dX12_oddsFrom_98 ?_
        refine lv_iload X.1 X.2.1 dX12_oddsFrom_99 (lv_at hl 1 rfl) ?_
        refine lv_iadd X.1 X.2.1 dX12_oddsFrom_101 ?_
        refine lv_iload X.1 X.2.1 dX12_oddsFrom_102 (lv_at hl 0 rfl) ?_
        refine lv_iadd X.1 X.2.1 dX12_oddsFrom_104 ?_
        refine lv_istore (lv' := [(12, .int _), (11, .int _), (10, .int _), (9, .int _), (0, .ref _), (1, .int _), (2, .int _), (3, .int _), (4, .int _), (5, .int _), (6, .int _), (7, .int _), (8, .int _)]) X.1 X.2.1 dX12_oddsFrom_105 hl (by decide) rfl (fun ls hl => ?_)
        refine lv_iload X.1 X.2.1 dX12_oddsFrom_107 (lv_at hl 0 rfl) ?_
        refine lv_aload_n X.1 X.2.1 dX12_oddsFrom_109 rfl (lv_at hl 4 rfl) ?_
        refine g12_22 X I (k := 123) (by decide) rfl lf_X12_49 dX12_oddsFrom_110 ?_
        refine lv_iconst (v := 0) X.1 X.2.1 dX12_oddsFrom_113 (by decide) ?_
        refine r_ald X I (k := 137) (n := 3) (by decide) rfl (by unfold vp_in; decide) dX12_oddsFrom_114 ?_
        refine lv_icmp_gt (tgt := 224) X.1 X.2.1 dX12_oddsFrom_115 (by decide) (fun c_8 => ?_) (fun c_8 => ?_)
        · skip
          have hE := ite_t hE c_8
          have ho := ite_tP ho c_8
          refine lv_iinc (v := _ + 1) (lv' := [(8, .int _), (12, .int _), (11, .int _), (10, .int _), (9, .int _), (0, .ref _), (1, .int _), (2, .int _), (3, .int _), (4, .int _), (5, .int _), (6, .int _), (7, .int _)]) X.1 X.2.1 dX12_oddsFrom_224 hl (k := 12) rfl rfl (by decide) rfl (fun ls hl => ?_)
          refine lv_goto (tgt := 40) X.1 X.2.1 dX12_oddsFrom_227 (by decide) ?_
          exact ih _ _ _ _ _ _ I (lv_sub hl [5, 6, 7, 8, 9, 10, 11, 12, 0] rfl) ho (Nat.lt_of_lt_of_le (up_dec c_2) (Nat.le_of_lt_succ hm)) (hE.trans (rfl))
        · skip
          have hE := ite_f hE c_8
          have ho := ite_fP ho c_8
          refine lv_aload_n X.1 X.2.1 dX12_oddsFrom_118 rfl (lv_at hl 4 rfl) ?_
          refine g12_27 X I (k := 123) (by decide) rfl lf_X12_58 dX12_oddsFrom_119 ?_
          refine lv_iconst (v := 0) X.1 X.2.1 dX12_oddsFrom_122 (by decide) ?_
          refine lv_iload X.1 X.2.1 dX12_oddsFrom_123 (lv_at hl 9 rfl) ?_
          refine lv_iadd X.1 X.2.1 dX12_oddsFrom_125 ?_
          refine lv_dup2_11 X.1 X.2.1 dX12_oddsFrom_126 rfl rfl ?_
          have ho21 := ho.1
          have ho := ho.2
          refine r_ald X I (k := 140) (n := 255) (by decide) rfl ho21 dX12_oddsFrom_127 ?_
          refine lv_aload_n X.1 X.2.1 dX12_oddsFrom_128 rfl (lv_at hl 4 rfl) ?_
          refine lv_iload X.1 X.2.1 dX12_oddsFrom_129 (lv_at hl 9 rfl) ?_
          have ho22 := ho.1
          have ho := ho.2
          refine r_ei I (r_runV X I pk_X12_isThankful (c12_isThankful l G _ _ _ ho22) lm_X12_295 (by decide) (cl_12 rfl) rfl rfl rfl hl.1 rfl (Nat.le_of_ble_eq_true rfl) dX12_oddsFrom_131 (hr_le (by omega) (by decide)) ⟨Nat.le_refl 0, Nat.le_refl 0⟩) (fun H locs I => ?_)
          refine lv_if_eq (tgt := 141) X.1 X.2.1 dX12_oddsFrom_134 (by decide) (fun c_9 => ?_) (fun c_9 => ?_)
          · skip
            have hE := ite_f hE (b2i_n c_9)
            have ho := ite_fP ho (b2i_n c_9)
            refine lv_aload_n X.1 X.2.1 dX12_oddsFrom_141 rfl (lv_at hl 4 rfl) ?_
            refine g12_27 X I (k := 123) (by decide) rfl lf_X12_58 dX12_oddsFrom_142 ?_
            refine lv_iconst (v := 0) X.1 X.2.1 dX12_oddsFrom_145 (by decide) ?_
            refine lv_iload X.1 X.2.1 dX12_oddsFrom_146 (lv_at hl 9 rfl) ?_
            refine lv_iadd X.1 X.2.1 dX12_oddsFrom_148 ?_
            have ho23 := ho.1
            have ho := ho.2
            refine r_ald X I (k := 140) (n := 255) (by decide) rfl ho23 dX12_oddsFrom_149 ?_
            refine lv_iload X.1 X.2.1 dX12_oddsFrom_150 (lv_at hl 1 rfl) ?_
            refine r_mmin X hl.1 lm_X12_301 ls_J9_min_7cf53 ln_J9 lc_J9_min_7cf53 (Nat.le_of_ble_eq_true rfl) (Nat.le_of_ble_eq_true rfl) (Nat.le_refl 0) (Nat.le_refl 0) dX12_oddsFrom_152 ?_
            refine lv_isub X.1 X.2.1 dX12_oddsFrom_155 ?_
            have ho24 := ho.1
            have ho := ho.2
            refine r_ast X I (k := 140) (n := 255) (by decide) rfl ho24 dX12_oddsFrom_156 (fun H locs I => ?_)
            refine lv_aload_n X.1 X.2.1 dX12_oddsFrom_157 rfl (lv_at hl 4 rfl) ?_
            refine g12_27 X I (k := 123) (by decide) rfl lf_X12_58 dX12_oddsFrom_158 ?_
            refine lv_bipush (v := 8) X.1 X.2.1 dX12_oddsFrom_161 (by decide) ?_
            refine lv_iload X.1 X.2.1 dX12_oddsFrom_163 (lv_at hl 0 rfl) ?_
            refine r_ast X I (k := 140) (n := 255) (by decide) rfl (by unfold vp_in; decide) dX12_oddsFrom_165 (fun H locs I => ?_)
            refine lv_aload_n X.1 X.2.1 dX12_oddsFrom_166 rfl (lv_at hl 4 rfl) ?_
            refine g12_27 X I (k := 123) (by decide) rfl lf_X12_58 dX12_oddsFrom_167 ?_
            refine lv_bipush (v := 10) X.1 X.2.1 dX12_oddsFrom_170 (by decide) ?_
            refine lv_iload X.1 X.2.1 dX12_oddsFrom_172 (lv_at hl 9 rfl) ?_
            refine r_ast X I (k := 140) (n := 255) (by decide) rfl (by unfold vp_in; decide) dX12_oddsFrom_174 (fun H locs I => ?_)
            refine lv_aload_n X.1 X.2.1 dX12_oddsFrom_175 rfl (lv_at hl 4 rfl) ?_
            refine g12_27 X I (k := 123) (by decide) rfl lf_X12_58 dX12_oddsFrom_176 ?_
            refine lv_bipush (v := 11) X.1 X.2.1 dX12_oddsFrom_179 (by decide) ?_
            refine lv_dup2_11 X.1 X.2.1 dX12_oddsFrom_181 rfl rfl ?_
            refine r_ald X I (k := 140) (n := 255) (by decide) rfl (by unfold vp_in; decide) dX12_oddsFrom_182 ?_
            refine lv_iconst (v := 1) X.1 X.2.1 dX12_oddsFrom_183 (by decide) ?_
            refine lv_iload X.1 X.2.1 dX12_oddsFrom_184 (lv_at hl 9 rfl) ?_
            refine lv_ishl X.1 X.2.1 dX12_oddsFrom_186 ?_
            refine lv_ior X.1 X.2.1 dX12_oddsFrom_187 ?_
            refine r_ast X I (k := 140) (n := 255) (by decide) rfl (by unfold vp_in; decide) dX12_oddsFrom_188 (fun H locs I => ?_)
            refine lv_iload X.1 X.2.1 dX12_oddsFrom_189 (lv_at hl 11 rfl) ?_
            refine lv_aload_n X.1 X.2.1 dX12_oddsFrom_191 rfl (lv_at hl 4 rfl) ?_
            refine lv_iload_n X.1 X.2.1 dX12_oddsFrom_192 rfl (lv_at hl 5 rfl) ?_
            refine lv_iconst (v := 1) X.1 X.2.1 dX12_oddsFrom_193 (by decide) ?_
            refine lv_iadd X.1 X.2.1 dX12_oddsFrom_194 ?_
            refine lv_iload_n X.1 X.2.1 dX12_oddsFrom_195 rfl (lv_at hl 6 rfl) ?_
            refine lv_iload_n X.1 X.2.1 dX12_oddsFrom_196 rfl (lv_at hl 7 rfl) ?_
            refine lv_iload X.1 X.2.1 dX12_oddsFrom_197 (lv_at hl 12 rfl) ?_
            refine lv_iconst (v := 1) X.1 X.2.1 dX12_oddsFrom_199 (by decide) ?_
            refine lv_icmp_ne (tgt := 208) X.1 X.2.1 dX12_oddsFrom_200 (by decide) (fun c_10 => ?_) (fun c_10 => ?_)
            · skip
              have hE := ite_f hE c_10
              have ho := ite_fP ho c_10
              refine lv_iload X.1 X.2.1 dX12_oddsFrom_208 (lv_at hl 8 rfl) ?_
              refine lv_iload X.1 X.2.1 dX12_oddsFrom_210 (lv_at hl 10 rfl) ?_
              refine lv_isub X.1 X.2.1 dX12_oddsFrom_212 ?_
              have ho25 := ho.1
              have ho := ho.2
              refine r_ei I (r_runV X I pk_X12_oddsFrom (hT _ _ _ _ _ _ ho25) lm_X12_434 (by decide) (cl_12 rfl) rfl rfl rfl hl.1 rfl (Nat.le_of_ble_eq_true rfl) dX12_oddsFrom_213 (hr_le (by omega) (by decide)) ⟨Nat.le_refl 0, Nat.le_refl 0⟩) (fun H locs I => ?_)
              refine lv_iadd X.1 X.2.1 dX12_oddsFrom_216 ?_
              refine lv_istore (lv' := [(7, .int _), (12, .int _), (11, .int _), (10, .int _), (9, .int _), (0, .ref _), (1, .int _), (2, .int _), (3, .int _), (4, .int _), (5, .int _), (6, .int _), (8, .int _)]) X.1 X.2.1 dX12_oddsFrom_217 hl (by decide) rfl (fun ls hl => ?_)
              refine lv_aload_n X.1 X.2.1 dX12_oddsFrom_219 rfl (lv_at hl 5 rfl) ?_
              refine lv_iload_n X.1 X.2.1 dX12_oddsFrom_220 rfl (lv_at hl 6 rfl) ?_
              have ho26 := ho.1
              have ho := ho.2
              refine r_ev I (r_runV X I pk_X12_takeBack (c12_takeBack l G _ _ _ ho26) lm_X12_392 (by decide) (cl_12 rfl) rfl rfl rfl hl.1 rfl (Nat.le_of_ble_eq_true rfl) dX12_oddsFrom_221 (hr_le (by omega) (by decide)) ⟨Nat.le_refl 0, Nat.le_refl 0⟩) (fun H locs I => ?_)
              refine lv_iinc (v := _ + 1) (lv' := [(8, .int _), (7, .int _), (12, .int _), (11, .int _), (10, .int _), (9, .int _), (0, .ref _), (1, .int _), (2, .int _), (3, .int _), (4, .int _), (5, .int _), (6, .int _)]) X.1 X.2.1 dX12_oddsFrom_224 hl (k := 12) rfl rfl (by decide) rfl (fun ls hl => ?_)
              refine lv_goto (tgt := 40) X.1 X.2.1 dX12_oddsFrom_227 (by decide) ?_
              exact ih _ _ _ _ _ _ I (lv_sub hl [6, 7, 8, 9, 10, 11, 12, 1, 0] rfl) ho (Nat.lt_of_lt_of_le (up_dec c_2) (Nat.le_of_lt_succ hm)) (hE.trans (rfl))
            · skip
              have hE := ite_t hE c_10
              have ho := ite_tP ho c_10
              refine lv_iload X.1 X.2.1 dX12_oddsFrom_203 (lv_at hl 10 rfl) ?_
              refine lv_goto (tgt := 213) X.1 X.2.1 dX12_oddsFrom_205 (by decide) ?_
              have ho27 := ho.1
              have ho := ho.2
              refine r_ei I (r_runV X I pk_X12_oddsFrom (hT _ _ _ _ _ _ ho27) lm_X12_434 (by decide) (cl_12 rfl) rfl rfl rfl hl.1 rfl (Nat.le_of_ble_eq_true rfl) dX12_oddsFrom_213 (hr_le (by omega) (by decide)) ⟨Nat.le_refl 0, Nat.le_refl 0⟩) (fun H locs I => ?_)
              refine lv_iadd X.1 X.2.1 dX12_oddsFrom_216 ?_
              refine lv_istore (lv' := [(7, .int _), (12, .int _), (11, .int _), (10, .int _), (9, .int _), (0, .ref _), (1, .int _), (2, .int _), (3, .int _), (4, .int _), (5, .int _), (6, .int _), (8, .int _)]) X.1 X.2.1 dX12_oddsFrom_217 hl (by decide) rfl (fun ls hl => ?_)
              refine lv_aload_n X.1 X.2.1 dX12_oddsFrom_219 rfl (lv_at hl 5 rfl) ?_
              refine lv_iload_n X.1 X.2.1 dX12_oddsFrom_220 rfl (lv_at hl 6 rfl) ?_
              have ho28 := ho.1
              have ho := ho.2
              refine r_ev I (r_runV X I pk_X12_takeBack (c12_takeBack l G _ _ _ ho28) lm_X12_392 (by decide) (cl_12 rfl) rfl rfl rfl hl.1 rfl (Nat.le_of_ble_eq_true rfl) dX12_oddsFrom_221 (hr_le (by omega) (by decide)) ⟨Nat.le_refl 0, Nat.le_refl 0⟩) (fun H locs I => ?_)
              refine lv_iinc (v := _ + 1) (lv' := [(8, .int _), (7, .int _), (12, .int _), (11, .int _), (10, .int _), (9, .int _), (0, .ref _), (1, .int _), (2, .int _), (3, .int _), (4, .int _), (5, .int _), (6, .int _)]) X.1 X.2.1 dX12_oddsFrom_224 hl (k := 12) rfl rfl (by decide) rfl (fun ls hl => ?_)
              refine lv_goto (tgt := 40) X.1 X.2.1 dX12_oddsFrom_227 (by decide) ?_
              exact ih _ _ _ _ _ _ I (lv_sub hl [6, 7, 8, 9, 10, 11, 12, 1, 0] rfl) ho (Nat.lt_of_lt_of_le (up_dec c_2) (Nat.le_of_lt_succ hm)) (hE.trans (rfl))
          · skip
            have hE := ite_t hE (b2i_y c_9)
            have ho := ite_tP ho (b2i_y c_9)
            refine lv_iconst (v := 0) X.1 X.2.1 dX12_oddsFrom_137 (by decide) ?_
            refine lv_goto (tgt := 155) X.1 X.2.1 dX12_oddsFrom_138 (by decide) ?_
            refine lv_isub X.1 X.2.1 dX12_oddsFrom_155 ?_
            have ho29 := ho.1
            have ho := ho.2
            refine r_ast X I (k := 140) (n := 255) (by decide) rfl ho29 dX12_oddsFrom_156 (fun H locs I => ?_)
            refine lv_aload_n X.1 X.2.1 dX12_oddsFrom_157 rfl (lv_at hl 4 rfl) ?_
            refine g12_27 X I (k := 123) (by decide) rfl lf_X12_58 dX12_oddsFrom_158 ?_
            refine lv_bipush (v := 8) X.1 X.2.1 dX12_oddsFrom_161 (by decide) ?_
            refine lv_iload X.1 X.2.1 dX12_oddsFrom_163 (lv_at hl 0 rfl) ?_
            refine r_ast X I (k := 140) (n := 255) (by decide) rfl (by unfold vp_in; decide) dX12_oddsFrom_165 (fun H locs I => ?_)
            refine lv_aload_n X.1 X.2.1 dX12_oddsFrom_166 rfl (lv_at hl 4 rfl) ?_
            refine g12_27 X I (k := 123) (by decide) rfl lf_X12_58 dX12_oddsFrom_167 ?_
            refine lv_bipush (v := 10) X.1 X.2.1 dX12_oddsFrom_170 (by decide) ?_
            refine lv_iload X.1 X.2.1 dX12_oddsFrom_172 (lv_at hl 9 rfl) ?_
            refine r_ast X I (k := 140) (n := 255) (by decide) rfl (by unfold vp_in; decide) dX12_oddsFrom_174 (fun H locs I => ?_)
            refine lv_aload_n X.1 X.2.1 dX12_oddsFrom_175 rfl (lv_at hl 4 rfl) ?_
            refine g12_27 X I (k := 123) (by decide) rfl lf_X12_58 dX12_oddsFrom_176 ?_
            refine lv_bipush (v := 11) X.1 X.2.1 dX12_oddsFrom_179 (by decide) ?_
            refine lv_dup2_11 X.1 X.2.1 dX12_oddsFrom_181 rfl rfl ?_
            refine r_ald X I (k := 140) (n := 255) (by decide) rfl (by unfold vp_in; decide) dX12_oddsFrom_182 ?_
            refine lv_iconst (v := 1) X.1 X.2.1 dX12_oddsFrom_183 (by decide) ?_
            refine lv_iload X.1 X.2.1 dX12_oddsFrom_184 (lv_at hl 9 rfl) ?_
            refine lv_ishl X.1 X.2.1 dX12_oddsFrom_186 ?_
            refine lv_ior X.1 X.2.1 dX12_oddsFrom_187 ?_
            refine r_ast X I (k := 140) (n := 255) (by decide) rfl (by unfold vp_in; decide) dX12_oddsFrom_188 (fun H locs I => ?_)
            refine lv_iload X.1 X.2.1 dX12_oddsFrom_189 (lv_at hl 11 rfl) ?_
            refine lv_aload_n X.1 X.2.1 dX12_oddsFrom_191 rfl (lv_at hl 4 rfl) ?_
            refine lv_iload_n X.1 X.2.1 dX12_oddsFrom_192 rfl (lv_at hl 5 rfl) ?_
            refine lv_iconst (v := 1) X.1 X.2.1 dX12_oddsFrom_193 (by decide) ?_
            refine lv_iadd X.1 X.2.1 dX12_oddsFrom_194 ?_
            refine lv_iload_n X.1 X.2.1 dX12_oddsFrom_195 rfl (lv_at hl 6 rfl) ?_
            refine lv_iload_n X.1 X.2.1 dX12_oddsFrom_196 rfl (lv_at hl 7 rfl) ?_
            refine lv_iload X.1 X.2.1 dX12_oddsFrom_197 (lv_at hl 12 rfl) ?_
            refine lv_iconst (v := 1) X.1 X.2.1 dX12_oddsFrom_199 (by decide) ?_
            refine lv_icmp_ne (tgt := 208) X.1 X.2.1 dX12_oddsFrom_200 (by decide) (fun c_11 => ?_) (fun c_11 => ?_)
            · skip
              have hE := ite_f hE c_11
              have ho := ite_fP ho c_11
              refine lv_iload X.1 X.2.1 dX12_oddsFrom_208 (lv_at hl 8 rfl) ?_
              refine lv_iload X.1 X.2.1 dX12_oddsFrom_210 (lv_at hl 10 rfl) ?_
              refine lv_isub X.1 X.2.1 dX12_oddsFrom_212 ?_
              have ho30 := ho.1
              have ho := ho.2
              refine r_ei I (r_runV X I pk_X12_oddsFrom (hT _ _ _ _ _ _ ho30) lm_X12_434 (by decide) (cl_12 rfl) rfl rfl rfl hl.1 rfl (Nat.le_of_ble_eq_true rfl) dX12_oddsFrom_213 (hr_le (by omega) (by decide)) ⟨Nat.le_refl 0, Nat.le_refl 0⟩) (fun H locs I => ?_)
              refine lv_iadd X.1 X.2.1 dX12_oddsFrom_216 ?_
              refine lv_istore (lv' := [(7, .int _), (12, .int _), (11, .int _), (10, .int _), (9, .int _), (0, .ref _), (1, .int _), (2, .int _), (3, .int _), (4, .int _), (5, .int _), (6, .int _), (8, .int _)]) X.1 X.2.1 dX12_oddsFrom_217 hl (by decide) rfl (fun ls hl => ?_)
              refine lv_aload_n X.1 X.2.1 dX12_oddsFrom_219 rfl (lv_at hl 5 rfl) ?_
              refine lv_iload_n X.1 X.2.1 dX12_oddsFrom_220 rfl (lv_at hl 6 rfl) ?_
              have ho31 := ho.1
              have ho := ho.2
              refine r_ev I (r_runV X I pk_X12_takeBack (c12_takeBack l G _ _ _ ho31) lm_X12_392 (by decide) (cl_12 rfl) rfl rfl rfl hl.1 rfl (Nat.le_of_ble_eq_true rfl) dX12_oddsFrom_221 (hr_le (by omega) (by decide)) ⟨Nat.le_refl 0, Nat.le_refl 0⟩) (fun H locs I => ?_)
              refine lv_iinc (v := _ + 1) (lv' := [(8, .int _), (7, .int _), (12, .int _), (11, .int _), (10, .int _), (9, .int _), (0, .ref _), (1, .int _), (2, .int _), (3, .int _), (4, .int _), (5, .int _), (6, .int _)]) X.1 X.2.1 dX12_oddsFrom_224 hl (k := 12) rfl rfl (by decide) rfl (fun ls hl => ?_)
              refine lv_goto (tgt := 40) X.1 X.2.1 dX12_oddsFrom_227 (by decide) ?_
              exact ih _ _ _ _ _ _ I (lv_sub hl [6, 7, 8, 9, 10, 11, 12, 1, 0] rfl) ho (Nat.lt_of_lt_of_le (up_dec c_2) (Nat.le_of_lt_succ hm)) (hE.trans (rfl))
            · skip
              have hE := ite_t hE c_11
              have ho := ite_tP ho c_11
              refine lv_iload X.1 X.2.1 dX12_oddsFrom_203 (lv_at hl 10 rfl) ?_
              refine lv_goto (tgt := 213) X.1 X.2.1 dX12_oddsFrom_205 (by decide) ?_
              have ho32 := ho.1
              have ho := ho.2
              refine r_ei I (r_runV X I pk_X12_oddsFrom (hT _ _ _ _ _ _ ho32) lm_X12_434 (by decide) (cl_12 rfl) rfl rfl rfl hl.1 rfl (Nat.le_of_ble_eq_true rfl) dX12_oddsFrom_213 (hr_le (by omega) (by decide)) ⟨Nat.le_refl 0, Nat.le_refl 0⟩) (fun H locs I => ?_)
              refine lv_iadd X.1 X.2.1 dX12_oddsFrom_216 ?_
              refine lv_istore (lv' := [(7, .int _), (12, .int _), (11, .int _), (10, .int _), (9, .int _), (0, .ref _), (1, .int _), (2, .int _), (3, .int _), (4, .int _), (5, .int _), (6, .int _), (8, .int _)]) X.1 X.2.1 dX12_oddsFrom_217 hl (by decide) rfl (fun ls hl => ?_)
              refine lv_aload_n X.1 X.2.1 dX12_oddsFrom_219 rfl (lv_at hl 5 rfl) ?_
              refine lv_iload_n X.1 X.2.1 dX12_oddsFrom_220 rfl (lv_at hl 6 rfl) ?_
              have ho33 := ho.1
              have ho := ho.2
              refine r_ev I (r_runV X I pk_X12_takeBack (c12_takeBack l G _ _ _ ho33) lm_X12_392 (by decide) (cl_12 rfl) rfl rfl rfl hl.1 rfl (Nat.le_of_ble_eq_true rfl) dX12_oddsFrom_221 (hr_le (by omega) (by decide)) ⟨Nat.le_refl 0, Nat.le_refl 0⟩) (fun H locs I => ?_)
              refine lv_iinc (v := _ + 1) (lv' := [(8, .int _), (7, .int _), (12, .int _), (11, .int _), (10, .int _), (9, .int _), (0, .ref _), (1, .int _), (2, .int _), (3, .int _), (4, .int _), (5, .int _), (6, .int _)]) X.1 X.2.1 dX12_oddsFrom_224 hl (k := 12) rfl rfl (by decide) rfl (fun ls hl => ?_)
              refine lv_goto (tgt := 40) X.1 X.2.1 dX12_oddsFrom_227 (by decide) ?_
              exact ih _ _ _ _ _ _ I (lv_sub hl [6, 7, 8, 9, 10, 11, 12, 1, 0] rfl) ho (Nat.lt_of_lt_of_le (up_dec c_2) (Nat.le_of_lt_succ hm)) (hE.trans (rfl))
set_option maxHeartbeats 4000000 in
set_option maxRecDepth 100000 in
theorem c12_oddsFrom (l : Launch) (G : GT) {T : SI → Int32 → Int32 → Int32 → Int32 → Int32 × SI} {oT : SI → Int32 → Int32 → Int32 → Int32 → Prop} {D : Nat} (hT : ∀ (σ : SI) (τ : SL) (x1 : Int32) (x2 : Int32) (x3 : Int32) (x4 : Int32), oT σ x1 x2 x3 x4 → Mc l yX12_oddsFrom cX12_oddsFrom 13 (some .int) (40 + D) G [.ref (G.2.1 123), .int x1, .int x2, .int x3, .int x4] σ τ (Qi G (Ei (T σ x1 x2 x3 x4).1 (T σ x1 x2 x3 x4).2 τ))) (σ : SI) (τ : SL) (x1 : Int32) (x2 : Int32) (x3 : Int32) (x4 : Int32) (ho : o12_oddsFrom T oT σ x1 x2 x3 x4) : Mc l yX12_oddsFrom cX12_oddsFrom 13 (some .int) (40 + D + 1) G [.ref (G.2.1 123), .int x1, .int x2, .int x3, .int x4] σ τ (Qi G (Ei (f12_oddsFrom T σ x1 x2 x3 x4).1 (f12_oddsFrom T σ x1 x2 x3 x4).2 τ)) := by
  refine m_start (by decide +kernel) (Nat.le_of_ble_eq_true rfl) rfl (fun p e s m args below meth c ls X I hl => ?_)
  have hl : lv_has ls 13 [(0, .ref (G.2.1 123)), (1, .int x1), (2, .int x2), (3, .int x3), (4, .int x4)] := hl
  obtain ⟨E, hE⟩ : ∃ E, E = (f12_oddsFrom T σ x1 x2 x3 x4) := ⟨_, rfl⟩
  rw [← hE]
  unfold o12_oddsFrom at ho
  refine lv_iload_n X.1 X.2.1 dX12_oddsFrom_0 rfl (lv_at hl 1 rfl) ?_
  refine lv_iload_n X.1 X.2.1 dX12_oddsFrom_1 rfl (lv_at hl 2 rfl) ?_
  refine lv_icmp_ne (tgt := 8) X.1 X.2.1 dX12_oddsFrom_2 (by decide) (fun c_1 => ?_) (fun c_1 => ?_)
  · skip
    have hE := ite_f hE c_1
    have ho := ite_fP ho c_1
    refine lv_aload_n X.1 X.2.1 dX12_oddsFrom_8 rfl (lv_at hl 0 rfl) ?_
    refine g12_39 X I (k := 123) (by decide) rfl lf_X12_77 dX12_oddsFrom_9 ?_
    refine lv_iload_n X.1 X.2.1 dX12_oddsFrom_12 rfl (lv_at hl 1 rfl) ?_
    have ho1 := ho.1
    have ho := ho.2
    refine r_ald X I (k := 144) (n := 7) (by decide) rfl ho1 dX12_oddsFrom_13 ?_
    refine lv_istore (lv' := [(5, .int _), (0, .ref _), (1, .int _), (2, .int _), (3, .int _), (4, .int _)]) X.1 X.2.1 dX12_oddsFrom_14 hl (by decide) rfl (fun ls hl => ?_)
    refine lv_iload X.1 X.2.1 dX12_oddsFrom_16 (lv_at hl 5 rfl) ?_
    refine lv_i2l X.1 X.2.1 dX12_oddsFrom_18 rfl ?_
    refine lv_iload_n X.1 X.2.1 dX12_oddsFrom_19 rfl (lv_at hl 4 rfl) ?_
    refine lv_i2l X.1 X.2.1 dX12_oddsFrom_20 rfl ?_
    refine lv_lmul X.1 X.2.1 dX12_oddsFrom_21 ?_
    refine lv_ldc2 X.1 X.2.1 (v := 100) X.2.2.2.2.1 (X.2.2.2.1 _ lq_X12_432) dX12_oddsFrom_22 ?_
    refine lv_ldiv X.1 X.2.1 dX12_oddsFrom_25 (by decide) ?_
    refine lv_l2i X.1 X.2.1 dX12_oddsFrom_26 rfl ?_
    refine lv_istore (lv' := [(6, .int _), (5, .int _), (0, .ref _), (1, .int _), (2, .int _), (3, .int _), (4, .int _)]) X.1 X.2.1 dX12_oddsFrom_27 hl (by decide) rfl (fun ls hl => ?_)
    refine lv_iconst (v := 0) X.1 X.2.1 dX12_oddsFrom_29 (by decide) ?_
    refine lv_istore (lv' := [(7, .int _), (6, .int _), (5, .int _), (0, .ref _), (1, .int _), (2, .int _), (3, .int _), (4, .int _)]) X.1 X.2.1 dX12_oddsFrom_30 hl (by decide) rfl (fun ls hl => ?_)
    refine lv_aload_n X.1 X.2.1 dX12_oddsFrom_32 rfl (lv_at hl 3 rfl) ?_
    refine lv_iload_n X.1 X.2.1 dX12_oddsFrom_33 rfl (lv_at hl 4 rfl) ?_
    have ho2 := ho.1
    have ho := ho.2
    refine r_ev I (r_runV X I pk_X12_putAside (c12_putAside l G _ _ _ ho2) lm_X12_385 (by decide) (cl_12 rfl) rfl rfl rfl hl.1 rfl (Nat.le_of_ble_eq_true rfl) dX12_oddsFrom_34 (hr_le (by omega) (by decide)) ⟨Nat.le_refl 0, Nat.le_refl 0⟩) (fun H locs I => ?_)
    refine lv_iconst (v := 0) X.1 X.2.1 dX12_oddsFrom_37 (by decide) ?_
    refine lv_istore (lv' := [(8, .int _), (7, .int _), (6, .int _), (5, .int _), (0, .ref _), (1, .int _), (2, .int _), (3, .int _), (4, .int _)]) X.1 X.2.1 dX12_oddsFrom_38 hl (by decide) rfl (fun ls hl => ?_)
    exact c12_oddsFrom_c40 X hT _ _ _ _ _ _ _ _ _ _ _ _ _ _ I (lv_sub hl [4, 5, 6, 7, 8, 3, 2, 1, 0] rfl) ho (fu1_lt _) (hE.trans (rfl))
  · skip
    have hE := ite_t hE c_1
    have ho := ite_tP ho c_1
    refine lv_iload X.1 X.2.1 dX12_oddsFrom_5 (lv_at hl 4 rfl) ?_
    have h9 := hE
    exact r_iret X I (e_i (pr_fst h9) (pr_snd h9) rfl) dX12_oddsFrom_7
noncomputable def fm_oddsFrom_D : Nat → SI → Int32 → Int32 → Int32 → Int32 → Int32 × SI
  | 0 => fun σ _ _ _ _ => (0, σ)
  | D + 1 => fun σ x1 x2 x3 x4 => f12_oddsFrom (fm_oddsFrom_D D) σ x1 x2 x3 x4
noncomputable def om_oddsFrom_D : Nat → SI → Int32 → Int32 → Int32 → Int32 → Prop
  | 0 => fun _ _ _ _ _ => False
  | D + 1 => fun σ x1 x2 x3 x4 => o12_oddsFrom (fm_oddsFrom_D D) (om_oddsFrom_D D) σ x1 x2 x3 x4
theorem w_fm_oddsFrom_D : ∀ (D : Nat) (σ : SI) (x1 : Int32) (x2 : Int32) (x3 : Int32) (x4 : Int32) (b : Nat), b ≠ 132 → b ≠ 133 → b ≠ 140 → b ≠ 143 → (fm_oddsFrom_D D σ x1 x2 x3 x4).2 b = σ b
  | 0, _, _, _, _, _, _, _, _, _, _ => rfl
  | D + 1, σ, x1, x2, x3, x4, b, h0, h1, h2, h3 => w_f12_oddsFrom (fun σ x1 x2 x3 x4 b h0 h1 h2 h3 => w_fm_oddsFrom_D D σ x1 x2 x3 x4 b h0 h1 h2 h3) σ x1 x2 x3 x4 b h0 h1 h2 h3
theorem cm_oddsFrom_D (l : Launch) (G : GT) : ∀ (D : Nat) (σ : SI) (τ : SL) (x1 : Int32) (x2 : Int32) (x3 : Int32) (x4 : Int32), om_oddsFrom_D D σ x1 x2 x3 x4 → Mc l yX12_oddsFrom cX12_oddsFrom 13 (some .int) (40 + D) G [.ref (G.2.1 123), .int x1, .int x2, .int x3, .int x4] σ τ (Qi G (Ei (fm_oddsFrom_D D σ x1 x2 x3 x4).1 (fm_oddsFrom_D D σ x1 x2 x3 x4).2 τ))
  | 0, _, _, _, _, _, _, h => h.elim
  | D + 1, σ, τ, x1, x2, x3, x4, h => c12_oddsFrom l G (fun σ τ x1 x2 x3 x4 h => cm_oddsFrom_D l G D σ τ x1 x2 x3 x4 h) σ τ x1 x2 x3 x4 h
noncomputable def f12_oddsFromR (σ : SI) (x1 : Int32) (x2 : Int32) (x3 : Int32) (x4 : Int32) : Int32 × SI := fm_oddsFrom_D (blk 9) σ x1 x2 x3 x4
noncomputable def o12_oddsFromR (σ : SI) (x1 : Int32) (x2 : Int32) (x3 : Int32) (x4 : Int32) : Prop := om_oddsFrom_D (blk 9) σ x1 x2 x3 x4
theorem w_f12_oddsFromR (σ : SI) (x1 : Int32) (x2 : Int32) (x3 : Int32) (x4 : Int32) (b : Nat) (h0 : b ≠ 132) (h1 : b ≠ 133) (h2 : b ≠ 140) (h3 : b ≠ 143) : (f12_oddsFromR σ x1 x2 x3 x4).2 b = σ b := w_fm_oddsFrom_D _ σ x1 x2 x3 x4 b h0 h1 h2 h3
theorem c12_oddsFromR (l : Launch) (G : GT) (σ : SI) (τ : SL) (x1 : Int32) (x2 : Int32) (x3 : Int32) (x4 : Int32) (h : o12_oddsFromR σ x1 x2 x3 x4) : Mc l yX12_oddsFrom cX12_oddsFrom 13 (some .int) 49 G [.ref (G.2.1 123), .int x1, .int x2, .int x3, .int x4] σ τ (Qi G (Ei (f12_oddsFromR σ x1 x2 x3 x4).1 (f12_oddsFromR σ x1 x2 x3 x4).2 τ)) := by
  unfold o12_oddsFromR at h
  unfold f12_oddsFromR
  rw [blk_eq] at h ⊢
  exact cm_oddsFrom_D l G 9 σ τ x1 x2 x3 x4 h
